section
-- ===== PART A: goes FIRST, ahead of the names: the tables' words, and 'selects' of the private methods out of them =====
/-- a private method of a class that the tables say can be made, by its rows of tables_1 -/
def lw_okq (q : MethodName × Nat) : Prop := (q.1.cls ≠ "java/lang/invoke/MethodHandle" ∧ q.1.cls ≠ "java/lang/invoke/VarHandle") ∧ Cond.instantiable q.1.cls q.2 ∈ tables_1 ∧ Cond.privateMethod q.1 ∈ tables_1 ∧ Cond.instanceMethod q.1 ∈ tables_1
theorem lw_p0 : lw_okq (⟨"FileIndexer", "readFile", "(I)V"⟩, 6) := ⟨⟨by decide +kernel, by decide +kernel⟩, List.mem_of_getElem? (i := 18) (by decide +kernel), List.mem_of_getElem? (i := 199) (by decide +kernel), List.mem_of_getElem? (i := 200) (by decide +kernel)⟩
theorem lw_p1 : lw_okq (⟨"FileIndexer$Entry", "add", "(JI)V"⟩, 3) := ⟨⟨by decide +kernel, by decide +kernel⟩, List.mem_of_getElem? (i := 74) (by decide +kernel), List.mem_of_getElem? (i := 228) (by decide +kernel), List.mem_of_getElem? (i := 229) (by decide +kernel)⟩
theorem lw_p2 : lw_okq (⟨"java/lang/Throwable", "fillInStackTrace", "(I)Ljava/lang/Throwable;"⟩, 6) := ⟨⟨by decide +kernel, by decide +kernel⟩, List.mem_of_getElem? (i := 295) (by decide +kernel), List.mem_of_getElem? (i := 293) (by decide +kernel), List.mem_of_getElem? (i := 294) (by decide +kernel)⟩
theorem lw_p3 : lw_okq (⟨"FileIndexer$Queue", "placeOf", "(I)I"⟩, 4) := ⟨⟨by decide +kernel, by decide +kernel⟩, List.mem_of_getElem? (i := 48) (by decide +kernel), List.mem_of_getElem? (i := 351) (by decide +kernel), List.mem_of_getElem? (i := 352) (by decide +kernel)⟩
theorem lw_p4 : lw_okq (⟨"FileIndexer$Queue", "putTogether", "(II)V"⟩, 4) := ⟨⟨by decide +kernel, by decide +kernel⟩, List.mem_of_getElem? (i := 48) (by decide +kernel), List.mem_of_getElem? (i := 355) (by decide +kernel), List.mem_of_getElem? (i := 356) (by decide +kernel)⟩
theorem lw_p5 : lw_okq (⟨"FileIndexer", "removeOne", "(I)V"⟩, 6) := ⟨⟨by decide +kernel, by decide +kernel⟩, List.mem_of_getElem? (i := 18) (by decide +kernel), List.mem_of_getElem? (i := 422) (by decide +kernel), List.mem_of_getElem? (i := 423) (by decide +kernel)⟩
theorem lw_p6 : lw_okq (⟨"FileIndexer", "follow", "(II)V"⟩, 6) := ⟨⟨by decide +kernel, by decide +kernel⟩, List.mem_of_getElem? (i := 18) (by decide +kernel), List.mem_of_getElem? (i := 471) (by decide +kernel), List.mem_of_getElem? (i := 472) (by decide +kernel)⟩
theorem lw_p7 : lw_okq (⟨"FileIndexer$Query", "parseAlternative", "()V"⟩, 7) := ⟨⟨by decide +kernel, by decide +kernel⟩, List.mem_of_getElem? (i := 102) (by decide +kernel), List.mem_of_getElem? (i := 506) (by decide +kernel), List.mem_of_getElem? (i := 507) (by decide +kernel)⟩
theorem lw_p8 : lw_okq (⟨"FileIndexer$Query", "skipBlanks", "()V"⟩, 7) := ⟨⟨by decide +kernel, by decide +kernel⟩, List.mem_of_getElem? (i := 102) (by decide +kernel), List.mem_of_getElem? (i := 510) (by decide +kernel), List.mem_of_getElem? (i := 511) (by decide +kernel)⟩
theorem lw_p9 : lw_okq (⟨"FileIndexer$Query", "parseTerm", "()V"⟩, 7) := ⟨⟨by decide +kernel, by decide +kernel⟩, List.mem_of_getElem? (i := 102) (by decide +kernel), List.mem_of_getElem? (i := 514) (by decide +kernel), List.mem_of_getElem? (i := 515) (by decide +kernel)⟩
theorem lw_p10 : lw_okq (⟨"FileIndexer$Query", "next", "()I"⟩, 7) := ⟨⟨by decide +kernel, by decide +kernel⟩, List.mem_of_getElem? (i := 102) (by decide +kernel), List.mem_of_getElem? (i := 523) (by decide +kernel), List.mem_of_getElem? (i := 524) (by decide +kernel)⟩
theorem lw_p11 : lw_okq (⟨"FileIndexer$Query", "parsePhrase", "(LFileIndexer$Term;)V"⟩, 7) := ⟨⟨by decide +kernel, by decide +kernel⟩, List.mem_of_getElem? (i := 102) (by decide +kernel), List.mem_of_getElem? (i := 531) (by decide +kernel), List.mem_of_getElem? (i := 532) (by decide +kernel)⟩
theorem lw_p12 : lw_okq (⟨"FileIndexer$Query", "isFaulty", "()Z"⟩, 7) := ⟨⟨by decide +kernel, by decide +kernel⟩, List.mem_of_getElem? (i := 102) (by decide +kernel), List.mem_of_getElem? (i := 535) (by decide +kernel), List.mem_of_getElem? (i := 536) (by decide +kernel)⟩
theorem lw_p13 : lw_okq (⟨"FileIndexer$Query", "parseWord", "(LFileIndexer$Term;)V"⟩, 7) := ⟨⟨by decide +kernel, by decide +kernel⟩, List.mem_of_getElem? (i := 102) (by decide +kernel), List.mem_of_getElem? (i := 540) (by decide +kernel), List.mem_of_getElem? (i := 541) (by decide +kernel)⟩
theorem lw_p14 : lw_okq (⟨"FileIndexer$Query", "parseWordOrBeginning", "(LFileIndexer$Term;)V"⟩, 7) := ⟨⟨by decide +kernel, by decide +kernel⟩, List.mem_of_getElem? (i := 102) (by decide +kernel), List.mem_of_getElem? (i := 553) (by decide +kernel), List.mem_of_getElem? (i := 554) (by decide +kernel)⟩
theorem lw_p15 : lw_okq (⟨"FileIndexer$Query", "endTerm", "()V"⟩, 7) := ⟨⟨by decide +kernel, by decide +kernel⟩, List.mem_of_getElem? (i := 102) (by decide +kernel), List.mem_of_getElem? (i := 561) (by decide +kernel), List.mem_of_getElem? (i := 562) (by decide +kernel)⟩
def lw_privs_1 : List (MethodName × Nat) := [(⟨"FileIndexer", "readFile", "(I)V"⟩, 6), (⟨"FileIndexer$Entry", "add", "(JI)V"⟩, 3), (⟨"java/lang/Throwable", "fillInStackTrace", "(I)Ljava/lang/Throwable;"⟩, 6), (⟨"FileIndexer$Queue", "placeOf", "(I)I"⟩, 4), (⟨"FileIndexer$Queue", "putTogether", "(II)V"⟩, 4), (⟨"FileIndexer", "removeOne", "(I)V"⟩, 6), (⟨"FileIndexer", "follow", "(II)V"⟩, 6), (⟨"FileIndexer$Query", "parseAlternative", "()V"⟩, 7), (⟨"FileIndexer$Query", "skipBlanks", "()V"⟩, 7), (⟨"FileIndexer$Query", "parseTerm", "()V"⟩, 7), (⟨"FileIndexer$Query", "next", "()I"⟩, 7), (⟨"FileIndexer$Query", "parsePhrase", "(LFileIndexer$Term;)V"⟩, 7), (⟨"FileIndexer$Query", "isFaulty", "()Z"⟩, 7), (⟨"FileIndexer$Query", "parseWord", "(LFileIndexer$Term;)V"⟩, 7), (⟨"FileIndexer$Query", "parseWordOrBeginning", "(LFileIndexer$Term;)V"⟩, 7), (⟨"FileIndexer$Query", "endTerm", "()V"⟩, 7)]
theorem lw_r1 : ∀ q ∈ lw_privs_1, lw_okq q := List.forall_mem_cons.mpr ⟨lw_p0, List.forall_mem_cons.mpr ⟨lw_p1, List.forall_mem_cons.mpr ⟨lw_p2, List.forall_mem_cons.mpr ⟨lw_p3, List.forall_mem_cons.mpr ⟨lw_p4, List.forall_mem_cons.mpr ⟨lw_p5, List.forall_mem_cons.mpr ⟨lw_p6, List.forall_mem_cons.mpr ⟨lw_p7, List.forall_mem_cons.mpr ⟨lw_p8, List.forall_mem_cons.mpr ⟨lw_p9, List.forall_mem_cons.mpr ⟨lw_p10, List.forall_mem_cons.mpr ⟨lw_p11, List.forall_mem_cons.mpr ⟨lw_p12, List.forall_mem_cons.mpr ⟨lw_p13, List.forall_mem_cons.mpr ⟨lw_p14, List.forall_mem_cons.mpr ⟨lw_p15, fun _ h => absurd h List.not_mem_nil⟩⟩⟩⟩⟩⟩⟩⟩⟩⟩⟩⟩⟩⟩⟩⟩
theorem lw_p16 : lw_okq (⟨"FileIndexer$Query", "atAlternativeEnd", "()Z"⟩, 7) := ⟨⟨by decide +kernel, by decide +kernel⟩, List.mem_of_getElem? (i := 102) (by decide +kernel), List.mem_of_getElem? (i := 565) (by decide +kernel), List.mem_of_getElem? (i := 566) (by decide +kernel)⟩
theorem lw_p17 : lw_okq (⟨"FileIndexer", "isSearched", "(II)Z"⟩, 6) := ⟨⟨by decide +kernel, by decide +kernel⟩, List.mem_of_getElem? (i := 18) (by decide +kernel), List.mem_of_getElem? (i := 578) (by decide +kernel), List.mem_of_getElem? (i := 579) (by decide +kernel)⟩
theorem lw_p18 : lw_okq (⟨"FileIndexer", "rank", "(I)V"⟩, 6) := ⟨⟨by decide +kernel, by decide +kernel⟩, List.mem_of_getElem? (i := 18) (by decide +kernel), List.mem_of_getElem? (i := 582) (by decide +kernel), List.mem_of_getElem? (i := 583) (by decide +kernel)⟩
theorem lw_p19 : lw_okq (⟨"FileIndexer$Query", "partOf", "(LFileIndexer$Entry;I)I"⟩, 7) := ⟨⟨by decide +kernel, by decide +kernel⟩, List.mem_of_getElem? (i := 102) (by decide +kernel), List.mem_of_getElem? (i := 594) (by decide +kernel), List.mem_of_getElem? (i := 595) (by decide +kernel)⟩
theorem lw_p20 : lw_okq (⟨"FileIndexer$Term", "hits", "(LFileIndexer$Entry;I)Z"⟩, 5) := ⟨⟨by decide +kernel, by decide +kernel⟩, List.mem_of_getElem? (i := 109) (by decide +kernel), List.mem_of_getElem? (i := 610) (by decide +kernel), List.mem_of_getElem? (i := 611) (by decide +kernel)⟩
theorem lw_p21 : lw_okq (⟨"FileIndexerModel", "raise", "(I)I"⟩, 34) := ⟨⟨by decide +kernel, by decide +kernel⟩, List.mem_of_getElem? (i := 691) (by decide +kernel), List.mem_of_getElem? (i := 811) (by decide +kernel), List.mem_of_getElem? (i := 812) (by decide +kernel)⟩
theorem lw_p22 : lw_okq (⟨"FileIndexerModel", "isFolder", "(I)Z"⟩, 34) := ⟨⟨by decide +kernel, by decide +kernel⟩, List.mem_of_getElem? (i := 691) (by decide +kernel), List.mem_of_getElem? (i := 815) (by decide +kernel), List.mem_of_getElem? (i := 816) (by decide +kernel)⟩
theorem lw_p23 : lw_okq (⟨"FileIndexerModel", "tell", "(II)V"⟩, 34) := ⟨⟨by decide +kernel, by decide +kernel⟩, List.mem_of_getElem? (i := 691) (by decide +kernel), List.mem_of_getElem? (i := 819) (by decide +kernel), List.mem_of_getElem? (i := 820) (by decide +kernel)⟩
theorem lw_p24 : lw_okq (⟨"FileIndexerModel", "drop", "(I)V"⟩, 34) := ⟨⟨by decide +kernel, by decide +kernel⟩, List.mem_of_getElem? (i := 691) (by decide +kernel), List.mem_of_getElem? (i := 826) (by decide +kernel), List.mem_of_getElem? (i := 827) (by decide +kernel)⟩
theorem lw_p25 : lw_okq (⟨"FileIndexerModel", "isFile", "(I)Z"⟩, 34) := ⟨⟨by decide +kernel, by decide +kernel⟩, List.mem_of_getElem? (i := 691) (by decide +kernel), List.mem_of_getElem? (i := 834) (by decide +kernel), List.mem_of_getElem? (i := 835) (by decide +kernel)⟩
theorem lw_p26 : lw_okq (⟨"FileIndexerModel", "mark", "(I)V"⟩, 34) := ⟨⟨by decide +kernel, by decide +kernel⟩, List.mem_of_getElem? (i := 691) (by decide +kernel), List.mem_of_getElem? (i := 846) (by decide +kernel), List.mem_of_getElem? (i := 847) (by decide +kernel)⟩
theorem lw_p27 : lw_okq (⟨"FileIndexerModel", "within", "(II)Z"⟩, 34) := ⟨⟨by decide +kernel, by decide +kernel⟩, List.mem_of_getElem? (i := 691) (by decide +kernel), List.mem_of_getElem? (i := 850) (by decide +kernel), List.mem_of_getElem? (i := 851) (by decide +kernel)⟩
theorem lw_p28 : lw_okq (⟨"FileIndexerModel", "read", "(I)V"⟩, 34) := ⟨⟨by decide +kernel, by decide +kernel⟩, List.mem_of_getElem? (i := 691) (by decide +kernel), List.mem_of_getElem? (i := 862) (by decide +kernel), List.mem_of_getElem? (i := 863) (by decide +kernel)⟩
theorem lw_p29 : lw_okq (⟨"FileIndexerModel", "parse", "()I"⟩, 34) := ⟨⟨by decide +kernel, by decide +kernel⟩, List.mem_of_getElem? (i := 691) (by decide +kernel), List.mem_of_getElem? (i := 881) (by decide +kernel), List.mem_of_getElem? (i := 882) (by decide +kernel)⟩
theorem lw_p30 : lw_okq (⟨"FileIndexerModel", "blanks", "()V"⟩, 34) := ⟨⟨by decide +kernel, by decide +kernel⟩, List.mem_of_getElem? (i := 691) (by decide +kernel), List.mem_of_getElem? (i := 885) (by decide +kernel), List.mem_of_getElem? (i := 886) (by decide +kernel)⟩
theorem lw_p31 : lw_okq (⟨"FileIndexerModel", "now", "()I"⟩, 34) := ⟨⟨by decide +kernel, by decide +kernel⟩, List.mem_of_getElem? (i := 691) (by decide +kernel), List.mem_of_getElem? (i := 889) (by decide +kernel), List.mem_of_getElem? (i := 890) (by decide +kernel)⟩
def lw_privs_2 : List (MethodName × Nat) := [(⟨"FileIndexer$Query", "atAlternativeEnd", "()Z"⟩, 7), (⟨"FileIndexer", "isSearched", "(II)Z"⟩, 6), (⟨"FileIndexer", "rank", "(I)V"⟩, 6), (⟨"FileIndexer$Query", "partOf", "(LFileIndexer$Entry;I)I"⟩, 7), (⟨"FileIndexer$Term", "hits", "(LFileIndexer$Entry;I)Z"⟩, 5), (⟨"FileIndexerModel", "raise", "(I)I"⟩, 34), (⟨"FileIndexerModel", "isFolder", "(I)Z"⟩, 34), (⟨"FileIndexerModel", "tell", "(II)V"⟩, 34), (⟨"FileIndexerModel", "drop", "(I)V"⟩, 34), (⟨"FileIndexerModel", "isFile", "(I)Z"⟩, 34), (⟨"FileIndexerModel", "mark", "(I)V"⟩, 34), (⟨"FileIndexerModel", "within", "(II)Z"⟩, 34), (⟨"FileIndexerModel", "read", "(I)V"⟩, 34), (⟨"FileIndexerModel", "parse", "()I"⟩, 34), (⟨"FileIndexerModel", "blanks", "()V"⟩, 34), (⟨"FileIndexerModel", "now", "()I"⟩, 34)]
theorem lw_r2 : ∀ q ∈ lw_privs_2, lw_okq q := List.forall_mem_cons.mpr ⟨lw_p16, List.forall_mem_cons.mpr ⟨lw_p17, List.forall_mem_cons.mpr ⟨lw_p18, List.forall_mem_cons.mpr ⟨lw_p19, List.forall_mem_cons.mpr ⟨lw_p20, List.forall_mem_cons.mpr ⟨lw_p21, List.forall_mem_cons.mpr ⟨lw_p22, List.forall_mem_cons.mpr ⟨lw_p23, List.forall_mem_cons.mpr ⟨lw_p24, List.forall_mem_cons.mpr ⟨lw_p25, List.forall_mem_cons.mpr ⟨lw_p26, List.forall_mem_cons.mpr ⟨lw_p27, List.forall_mem_cons.mpr ⟨lw_p28, List.forall_mem_cons.mpr ⟨lw_p29, List.forall_mem_cons.mpr ⟨lw_p30, List.forall_mem_cons.mpr ⟨lw_p31, fun _ h => absurd h List.not_mem_nil⟩⟩⟩⟩⟩⟩⟩⟩⟩⟩⟩⟩⟩⟩⟩⟩
theorem lw_p32 : lw_okq (⟨"FileIndexerModel", "takeTerm", "(I)V"⟩, 34) := ⟨⟨by decide +kernel, by decide +kernel⟩, List.mem_of_getElem? (i := 691) (by decide +kernel), List.mem_of_getElem? (i := 893) (by decide +kernel), List.mem_of_getElem? (i := 894) (by decide +kernel)⟩
theorem lw_p33 : lw_okq (⟨"FileIndexerModel", "takePhrase", "()V"⟩, 34) := ⟨⟨by decide +kernel, by decide +kernel⟩, List.mem_of_getElem? (i := 691) (by decide +kernel), List.mem_of_getElem? (i := 897) (by decide +kernel), List.mem_of_getElem? (i := 898) (by decide +kernel)⟩
theorem lw_p34 : lw_okq (⟨"FileIndexerModel", "blame", "()V"⟩, 34) := ⟨⟨by decide +kernel, by decide +kernel⟩, List.mem_of_getElem? (i := 691) (by decide +kernel), List.mem_of_getElem? (i := 901) (by decide +kernel), List.mem_of_getElem? (i := 902) (by decide +kernel)⟩
theorem lw_p35 : lw_okq (⟨"FileIndexerModel", "takeWord", "()V"⟩, 34) := ⟨⟨by decide +kernel, by decide +kernel⟩, List.mem_of_getElem? (i := 691) (by decide +kernel), List.mem_of_getElem? (i := 905) (by decide +kernel), List.mem_of_getElem? (i := 906) (by decide +kernel)⟩
theorem lw_p36 : lw_okq (⟨"FileIndexerModel", "score", "(II)I"⟩, 34) := ⟨⟨by decide +kernel, by decide +kernel⟩, List.mem_of_getElem? (i := 691) (by decide +kernel), List.mem_of_getElem? (i := 909) (by decide +kernel), List.mem_of_getElem? (i := 910) (by decide +kernel)⟩
theorem lw_p37 : lw_okq (⟨"FileIndexerModel", "hits", "(II)I"⟩, 34) := ⟨⟨by decide +kernel, by decide +kernel⟩, List.mem_of_getElem? (i := 691) (by decide +kernel), List.mem_of_getElem? (i := 913) (by decide +kernel), List.mem_of_getElem? (i := 914) (by decide +kernel)⟩
theorem lw_p38 : lw_okq (⟨"FileIndexerModel", "hit", "(II)Z"⟩, 34) := ⟨⟨by decide +kernel, by decide +kernel⟩, List.mem_of_getElem? (i := 691) (by decide +kernel), List.mem_of_getElem? (i := 917) (by decide +kernel), List.mem_of_getElem? (i := 918) (by decide +kernel)⟩
theorem lw_p39 : lw_okq (⟨"FileIndexerModel", "place", "(II)V"⟩, 34) := ⟨⟨by decide +kernel, by decide +kernel⟩, List.mem_of_getElem? (i := 691) (by decide +kernel), List.mem_of_getElem? (i := 921) (by decide +kernel), List.mem_of_getElem? (i := 922) (by decide +kernel)⟩
def lw_privs_3 : List (MethodName × Nat) := [(⟨"FileIndexerModel", "takeTerm", "(I)V"⟩, 34), (⟨"FileIndexerModel", "takePhrase", "()V"⟩, 34), (⟨"FileIndexerModel", "blame", "()V"⟩, 34), (⟨"FileIndexerModel", "takeWord", "()V"⟩, 34), (⟨"FileIndexerModel", "score", "(II)I"⟩, 34), (⟨"FileIndexerModel", "hits", "(II)I"⟩, 34), (⟨"FileIndexerModel", "hit", "(II)Z"⟩, 34), (⟨"FileIndexerModel", "place", "(II)V"⟩, 34)]
theorem lw_r3 : ∀ q ∈ lw_privs_3, lw_okq q := List.forall_mem_cons.mpr ⟨lw_p32, List.forall_mem_cons.mpr ⟨lw_p33, List.forall_mem_cons.mpr ⟨lw_p34, List.forall_mem_cons.mpr ⟨lw_p35, List.forall_mem_cons.mpr ⟨lw_p36, List.forall_mem_cons.mpr ⟨lw_p37, List.forall_mem_cons.mpr ⟨lw_p38, List.forall_mem_cons.mpr ⟨lw_p39, fun _ h => absurd h List.not_mem_nil⟩⟩⟩⟩⟩⟩⟩⟩
def lw_privs : List (MethodName × Nat) := lw_privs_1 ++ (lw_privs_2 ++ (lw_privs_3))
def lw_tbl : List Cond := k2_sels lw_privs ++ tables_1
theorem lw_privs_ok : ∀ q ∈ lw_privs, lw_okq q := by
  show ∀ q ∈ lw_privs_1 ++ (lw_privs_2 ++ (lw_privs_3)), lw_okq q
  exact List.forall_mem_append.mpr ⟨lw_r1, List.forall_mem_append.mpr ⟨lw_r2, lw_r3⟩⟩
end
section
-- NAMES, printed by wip/gen/parts1.py out of the claim's listings
def Wd (w : Cond) : Prop := w ∈ lw_tbl ∧ goodWord w = true
theorem lw_in {w : Cond} (h : w ∈ tables_1) : w ∈ lw_tbl := List.mem_append_right _ h
theorem Wd.t {w : Cond} (i : Nat) (h : tables_1[i]? = some w) (g : goodWord w = true) : Wd w := ⟨lw_in (List.mem_of_getElem? h), g⟩
def kT0 : u_T := fun k => match k with
  | 0 => ("FileIndexer$Entry", "spellings", "[J", true)
  | 1 => ("FileIndexer$Entry", "weights", "[I", true)
  | _ => ("FileIndexer$Entry", "size", "I", false)
def kY0 : Nat → FieldType := fun k => match k with
  | 0 => .array .long
  | 1 => .array .int
  | _ => .int
def kT1 : u_T := fun k => match k with
  | 0 => ("FileIndexer$Index", "entries", "[LFileIndexer$Entry;", true)
  | 1 => ("FileIndexer$Index", "held", "[Z", true)
  | _ => ("FileIndexer$Index", "timesRead", "I", false)
def kY1 : Nat → FieldType := fun k => match k with
  | 0 => .array (.object "FileIndexer$Entry")
  | 1 => .array .boolean
  | _ => .int
def kT2 : u_T := fun k => match k with
  | 0 => ("FileIndexer$Query", "text", "[I", true)
  | 1 => ("FileIndexer$Query", "length", "I", false)
  | 2 => ("FileIndexer$Query", "terms", "[LFileIndexer$Term;", true)
  | 3 => ("FileIndexer$Query", "termsFound", "I", false)
  | 4 => ("FileIndexer$Query", "alternatives", "I", false)
  | 5 => ("FileIndexer$Query", "at", "I", false)
  | _ => ("FileIndexer$Query", "firstFault", "I", false)
def kY2 : Nat → FieldType := fun k => match k with
  | 0 => .array .int
  | 1 => .int
  | 2 => .array (.object "FileIndexer$Term")
  | 3 => .int
  | 4 => .int
  | 5 => .int
  | _ => .int
def kT3 : u_T := fun k => match k with
  | 0 => ("FileIndexer$Queue", "kinds", "[I", true)
  | 1 => ("FileIndexer$Queue", "files", "[I", true)
  | 2 => ("FileIndexer$Queue", "size", "I", false)
  | _ => ("FileIndexer$Queue", "lost", "Z", false)
def kY3 : Nat → FieldType := fun k => match k with
  | 0 => .array .int
  | 1 => .array .int
  | 2 => .int
  | _ => .boolean
def kT4 : u_T := fun k => match k with
  | 0 => ("FileIndexer$Ranking", "files", "[I", true)
  | 1 => ("FileIndexer$Ranking", "scores", "[I", true)
  | _ => ("FileIndexer$Ranking", "size", "I", false)
def kY4 : Nat → FieldType := fun k => match k with
  | 0 => .array .int
  | 1 => .array .int
  | _ => .int
def kT5 : u_T := fun k => match k with
  | 0 => ("FileIndexer$Term", "spellings", "[J", true)
  | 1 => ("FileIndexer$Term", "size", "I", false)
  | 2 => ("FileIndexer$Term", "alternative", "I", false)
  | 3 => ("FileIndexer$Term", "unwanted", "Z", false)
  | _ => ("FileIndexer$Term", "compared", "J", false)
def kY5 : Nat → FieldType := fun k => match k with
  | 0 => .array .long
  | 1 => .int
  | 2 => .int
  | 3 => .boolean
  | _ => .long
def kT6 : u_T := fun k => match k with
  | 0 => ("FileIndexer$Tree", "states", "[I", true)
  | 1 => ("FileIndexer$Tree", "parents", "[I", true)
  | 2 => ("FileIndexer$Tree", "contents", "[[I", true)
  | _ => ("FileIndexer$Tree", "lengths", "[I", true)
def kY6 : Nat → FieldType := fun k => match k with
  | 0 => .array .int
  | 1 => .array .int
  | 2 => .array (.array .int)
  | _ => .array .int
def kT7 : u_T := fun k => match k with
  | 0 => ("FileIndexer", "tree", "LFileIndexer$Tree;", true)
  | 1 => ("FileIndexer", "queue", "LFileIndexer$Queue;", true)
  | 2 => ("FileIndexer", "index", "LFileIndexer$Index;", true)
  | 3 => ("FileIndexer", "query", "LFileIndexer$Query;", true)
  | 4 => ("FileIndexer", "ranking", "LFileIndexer$Ranking;", true)
  | _ => ("FileIndexer", "faultPlace", "I", false)
def kY7 : Nat → FieldType := fun k => match k with
  | 0 => .object "FileIndexer$Tree"
  | 1 => .object "FileIndexer$Queue"
  | 2 => .object "FileIndexer$Index"
  | 3 => .object "FileIndexer$Query"
  | 4 => .object "FileIndexer$Ranking"
  | _ => .int
def kT8 : u_T := fun k => match k with
  | 0 => ("FileIndexerModel", "thrown", "I", false)
  | 1 => ("FileIndexerModel", "there", "[Z", true)
  | 2 => ("FileIndexerModel", "folder", "[Z", true)
  | 3 => ("FileIndexerModel", "parent", "[I", true)
  | 4 => ("FileIndexerModel", "content", "[I", true)
  | 5 => ("FileIndexerModel", "length", "[I", true)
  | 6 => ("FileIndexerModel", "marked", "[Z", true)
  | 7 => ("FileIndexerModel", "eventKind", "[I", true)
  | 8 => ("FileIndexerModel", "eventFile", "[I", true)
  | 9 => ("FileIndexerModel", "events", "I", false)
  | 10 => ("FileIndexerModel", "lost", "Z", false)
  | 11 => ("FileIndexerModel", "reads", "I", false)
  | 12 => ("FileIndexerModel", "indexed", "[Z", true)
  | 13 => ("FileIndexerModel", "words", "[I", true)
  | 14 => ("FileIndexerModel", "word", "[J", true)
  | 15 => ("FileIndexerModel", "letters", "[I", true)
  | 16 => ("FileIndexerModel", "weight", "[I", true)
  | 17 => ("FileIndexerModel", "query", "[I", true)
  | 18 => ("FileIndexerModel", "asked", "I", false)
  | 19 => ("FileIndexerModel", "alternative", "[I", true)
  | 20 => ("FileIndexerModel", "without", "[Z", true)
  | 21 => ("FileIndexerModel", "sort", "[I", true)
  | 22 => ("FileIndexerModel", "first", "[I", true)
  | 23 => ("FileIndexerModel", "many", "[I", true)
  | 24 => ("FileIndexerModel", "terms", "I", false)
  | 25 => ("FileIndexerModel", "qWord", "[J", true)
  | 26 => ("FileIndexerModel", "qLetters", "[I", true)
  | 27 => ("FileIndexerModel", "qWords", "I", false)
  | 28 => ("FileIndexerModel", "at", "I", false)
  | 29 => ("FileIndexerModel", "wrong", "I", false)
  | 30 => ("FileIndexerModel", "fault", "I", false)
  | 31 => ("FileIndexerModel", "found", "[I", true)
  | 32 => ("FileIndexerModel", "scores", "[I", true)
  | _ => ("FileIndexerModel", "results", "I", false)
def kY8 : Nat → FieldType := fun k => match k with
  | 0 => .int
  | 1 => .array .boolean
  | 2 => .array .boolean
  | 3 => .array .int
  | 4 => .array .int
  | 5 => .array .int
  | 6 => .array .boolean
  | 7 => .array .int
  | 8 => .array .int
  | 9 => .int
  | 10 => .boolean
  | 11 => .int
  | 12 => .array .boolean
  | 13 => .array .int
  | 14 => .array .long
  | 15 => .array .int
  | 16 => .array .int
  | 17 => .array .int
  | 18 => .int
  | 19 => .array .int
  | 20 => .array .boolean
  | 21 => .array .int
  | 22 => .array .int
  | 23 => .array .int
  | 24 => .int
  | 25 => .array .long
  | 26 => .array .int
  | 27 => .int
  | 28 => .int
  | 29 => .int
  | 30 => .int
  | 31 => .array .int
  | 32 => .array .int
  | _ => .int
def kTe : u_T := fun _ => ("", "", "", false)
def kN : Nat → String := fun c => match c with
  | 0 => "FileIndexer$Entry"
  | 1 => "FileIndexer$Index"
  | 2 => "FileIndexer$Query"
  | 3 => "FileIndexer$Queue"
  | 4 => "FileIndexer$Ranking"
  | 5 => "FileIndexer$Term"
  | 6 => "FileIndexer$Tree"
  | 7 => "FileIndexer"
  | 8 => "FileIndexerModel"
  | 9 => "java/lang/IllegalArgumentException"
  | 10 => "java/lang/IllegalStateException"
  | _ => "java/util/NoSuchElementException"
def kT : Nat → u_T := fun c => match c with
  | 0 => kT0
  | 1 => kT1
  | 2 => kT2
  | 3 => kT3
  | 4 => kT4
  | 5 => kT5
  | 6 => kT6
  | 7 => kT7
  | 8 => kT8
  | _ => kTe
def kF : Nat → Nat := fun c => match c with
  | 0 => 3
  | 1 => 3
  | 2 => 7
  | 3 => 4
  | 4 => 3
  | 5 => 5
  | 6 => 4
  | 7 => 6
  | 8 => 34
  | _ => 0
def kY : Nat → Nat → FieldType := fun c => match c with
  | 0 => kY0
  | 1 => kY1
  | 2 => kY2
  | 3 => kY3
  | 4 => kY4
  | 5 => kY5
  | 6 => kY6
  | 7 => kY7
  | 8 => kY8
  | _ => fun _ => .int
abbrev vwCl : List vw_C := [(kN 0, kT 0, kF 0), (kN 1, kT 1, kF 1), (kN 2, kT 2, kF 2), (kN 3, kT 3, kF 3), (kN 4, kT 4, kF 4), (kN 5, kT 5, kF 5), (kN 6, kT 6, kF 6), (kN 7, kT 7, kF 7), (kN 8, kT 8, kF 8), (kN 9, kT 9, kF 9), (kN 10, kT 10, kF 10), (kN 11, kT 11, kF 11)]
theorem ly0_0 : u_lay (kN 0) (kT 0) 0 ∈ lw_tbl := lw_in (List.mem_of_getElem? (i := 82) (by decide +kernel))
theorem ly0_1 : u_lay (kN 0) (kT 0) 1 ∈ lw_tbl := lw_in (List.mem_of_getElem? (i := 84) (by decide +kernel))
theorem ly0_2 : u_lay (kN 0) (kT 0) 2 ∈ lw_tbl := lw_in (List.mem_of_getElem? (i := 86) (by decide +kernel))
theorem ly0 : ∀ k, k < kF 0 → u_lay (kN 0) (kT 0) k ∈ lw_tbl := fun k hk => match k, hk with
  | 0, _ => ly0_0
  | 1, _ => ly0_1
  | 2, _ => ly0_2
  | k + 3, h => absurd h (by simp [kF])
theorem ly1_0 : u_lay (kN 1) (kT 1) 0 ∈ lw_tbl := lw_in (List.mem_of_getElem? (i := 94) (by decide +kernel))
theorem ly1_1 : u_lay (kN 1) (kT 1) 1 ∈ lw_tbl := lw_in (List.mem_of_getElem? (i := 96) (by decide +kernel))
theorem ly1_2 : u_lay (kN 1) (kT 1) 2 ∈ lw_tbl := lw_in (List.mem_of_getElem? (i := 98) (by decide +kernel))
theorem ly1 : ∀ k, k < kF 1 → u_lay (kN 1) (kT 1) k ∈ lw_tbl := fun k hk => match k, hk with
  | 0, _ => ly1_0
  | 1, _ => ly1_1
  | 2, _ => ly1_2
  | k + 3, h => absurd h (by simp [kF])
theorem ly2_0 : u_lay (kN 2) (kT 2) 0 ∈ lw_tbl := lw_in (List.mem_of_getElem? (i := 137) (by decide +kernel))
theorem ly2_1 : u_lay (kN 2) (kT 2) 1 ∈ lw_tbl := lw_in (List.mem_of_getElem? (i := 139) (by decide +kernel))
theorem ly2_2 : u_lay (kN 2) (kT 2) 2 ∈ lw_tbl := lw_in (List.mem_of_getElem? (i := 141) (by decide +kernel))
theorem ly2_3 : u_lay (kN 2) (kT 2) 3 ∈ lw_tbl := lw_in (List.mem_of_getElem? (i := 143) (by decide +kernel))
theorem ly2_4 : u_lay (kN 2) (kT 2) 4 ∈ lw_tbl := lw_in (List.mem_of_getElem? (i := 145) (by decide +kernel))
theorem ly2_5 : u_lay (kN 2) (kT 2) 5 ∈ lw_tbl := lw_in (List.mem_of_getElem? (i := 147) (by decide +kernel))
theorem ly2_6 : u_lay (kN 2) (kT 2) 6 ∈ lw_tbl := lw_in (List.mem_of_getElem? (i := 149) (by decide +kernel))
theorem ly2 : ∀ k, k < kF 2 → u_lay (kN 2) (kT 2) k ∈ lw_tbl := fun k hk => match k, hk with
  | 0, _ => ly2_0
  | 1, _ => ly2_1
  | 2, _ => ly2_2
  | 3, _ => ly2_3
  | 4, _ => ly2_4
  | 5, _ => ly2_5
  | 6, _ => ly2_6
  | k + 7, h => absurd h (by simp [kF])
theorem ly3_0 : u_lay (kN 3) (kT 3) 0 ∈ lw_tbl := lw_in (List.mem_of_getElem? (i := 57) (by decide +kernel))
theorem ly3_1 : u_lay (kN 3) (kT 3) 1 ∈ lw_tbl := lw_in (List.mem_of_getElem? (i := 59) (by decide +kernel))
theorem ly3_2 : u_lay (kN 3) (kT 3) 2 ∈ lw_tbl := lw_in (List.mem_of_getElem? (i := 61) (by decide +kernel))
theorem ly3_3 : u_lay (kN 3) (kT 3) 3 ∈ lw_tbl := lw_in (List.mem_of_getElem? (i := 63) (by decide +kernel))
theorem ly3 : ∀ k, k < kF 3 → u_lay (kN 3) (kT 3) k ∈ lw_tbl := fun k hk => match k, hk with
  | 0, _ => ly3_0
  | 1, _ => ly3_1
  | 2, _ => ly3_2
  | 3, _ => ly3_3
  | k + 4, h => absurd h (by simp [kF])
theorem ly4_0 : u_lay (kN 4) (kT 4) 0 ∈ lw_tbl := lw_in (List.mem_of_getElem? (i := 161) (by decide +kernel))
theorem ly4_1 : u_lay (kN 4) (kT 4) 1 ∈ lw_tbl := lw_in (List.mem_of_getElem? (i := 163) (by decide +kernel))
theorem ly4_2 : u_lay (kN 4) (kT 4) 2 ∈ lw_tbl := lw_in (List.mem_of_getElem? (i := 165) (by decide +kernel))
theorem ly4 : ∀ k, k < kF 4 → u_lay (kN 4) (kT 4) k ∈ lw_tbl := fun k hk => match k, hk with
  | 0, _ => ly4_0
  | 1, _ => ly4_1
  | 2, _ => ly4_2
  | k + 3, h => absurd h (by simp [kF])
theorem ly5_0 : u_lay (kN 5) (kT 5) 0 ∈ lw_tbl := lw_in (List.mem_of_getElem? (i := 119) (by decide +kernel))
theorem ly5_1 : u_lay (kN 5) (kT 5) 1 ∈ lw_tbl := lw_in (List.mem_of_getElem? (i := 121) (by decide +kernel))
theorem ly5_2 : u_lay (kN 5) (kT 5) 2 ∈ lw_tbl := lw_in (List.mem_of_getElem? (i := 123) (by decide +kernel))
theorem ly5_3 : u_lay (kN 5) (kT 5) 3 ∈ lw_tbl := lw_in (List.mem_of_getElem? (i := 125) (by decide +kernel))
theorem ly5_4 : u_lay (kN 5) (kT 5) 4 ∈ lw_tbl := lw_in (List.mem_of_getElem? (i := 127) (by decide +kernel))
theorem ly5 : ∀ k, k < kF 5 → u_lay (kN 5) (kT 5) k ∈ lw_tbl := fun k hk => match k, hk with
  | 0, _ => ly5_0
  | 1, _ => ly5_1
  | 2, _ => ly5_2
  | 3, _ => ly5_3
  | 4, _ => ly5_4
  | k + 5, h => absurd h (by simp [kF])
theorem ly6_0 : u_lay (kN 6) (kT 6) 0 ∈ lw_tbl := lw_in (List.mem_of_getElem? (i := 37) (by decide +kernel))
theorem ly6_1 : u_lay (kN 6) (kT 6) 1 ∈ lw_tbl := lw_in (List.mem_of_getElem? (i := 39) (by decide +kernel))
theorem ly6_2 : u_lay (kN 6) (kT 6) 2 ∈ lw_tbl := lw_in (List.mem_of_getElem? (i := 41) (by decide +kernel))
theorem ly6_3 : u_lay (kN 6) (kT 6) 3 ∈ lw_tbl := lw_in (List.mem_of_getElem? (i := 43) (by decide +kernel))
theorem ly6 : ∀ k, k < kF 6 → u_lay (kN 6) (kT 6) k ∈ lw_tbl := fun k hk => match k, hk with
  | 0, _ => ly6_0
  | 1, _ => ly6_1
  | 2, _ => ly6_2
  | 3, _ => ly6_3
  | k + 4, h => absurd h (by simp [kF])
theorem ly7_0 : u_lay (kN 7) (kT 7) 0 ∈ lw_tbl := lw_in (List.mem_of_getElem? (i := 174) (by decide +kernel))
theorem ly7_1 : u_lay (kN 7) (kT 7) 1 ∈ lw_tbl := lw_in (List.mem_of_getElem? (i := 176) (by decide +kernel))
theorem ly7_2 : u_lay (kN 7) (kT 7) 2 ∈ lw_tbl := lw_in (List.mem_of_getElem? (i := 178) (by decide +kernel))
theorem ly7_3 : u_lay (kN 7) (kT 7) 3 ∈ lw_tbl := lw_in (List.mem_of_getElem? (i := 180) (by decide +kernel))
theorem ly7_4 : u_lay (kN 7) (kT 7) 4 ∈ lw_tbl := lw_in (List.mem_of_getElem? (i := 182) (by decide +kernel))
theorem ly7_5 : u_lay (kN 7) (kT 7) 5 ∈ lw_tbl := lw_in (List.mem_of_getElem? (i := 184) (by decide +kernel))
theorem ly7 : ∀ k, k < kF 7 → u_lay (kN 7) (kT 7) k ∈ lw_tbl := fun k hk => match k, hk with
  | 0, _ => ly7_0
  | 1, _ => ly7_1
  | 2, _ => ly7_2
  | 3, _ => ly7_3
  | 4, _ => ly7_4
  | 5, _ => ly7_5
  | k + 6, h => absurd h (by simp [kF])
theorem ly8_0 : u_lay (kN 8) (kT 8) 0 ∈ lw_tbl := lw_in (List.mem_of_getElem? (i := 730) (by decide +kernel))
theorem ly8_1 : u_lay (kN 8) (kT 8) 1 ∈ lw_tbl := lw_in (List.mem_of_getElem? (i := 732) (by decide +kernel))
theorem ly8_2 : u_lay (kN 8) (kT 8) 2 ∈ lw_tbl := lw_in (List.mem_of_getElem? (i := 734) (by decide +kernel))
theorem ly8_3 : u_lay (kN 8) (kT 8) 3 ∈ lw_tbl := lw_in (List.mem_of_getElem? (i := 736) (by decide +kernel))
theorem ly8_4 : u_lay (kN 8) (kT 8) 4 ∈ lw_tbl := lw_in (List.mem_of_getElem? (i := 738) (by decide +kernel))
theorem ly8_5 : u_lay (kN 8) (kT 8) 5 ∈ lw_tbl := lw_in (List.mem_of_getElem? (i := 740) (by decide +kernel))
theorem ly8_6 : u_lay (kN 8) (kT 8) 6 ∈ lw_tbl := lw_in (List.mem_of_getElem? (i := 742) (by decide +kernel))
theorem ly8_7 : u_lay (kN 8) (kT 8) 7 ∈ lw_tbl := lw_in (List.mem_of_getElem? (i := 744) (by decide +kernel))
theorem ly8_8 : u_lay (kN 8) (kT 8) 8 ∈ lw_tbl := lw_in (List.mem_of_getElem? (i := 746) (by decide +kernel))
theorem ly8_9 : u_lay (kN 8) (kT 8) 9 ∈ lw_tbl := lw_in (List.mem_of_getElem? (i := 748) (by decide +kernel))
theorem ly8_10 : u_lay (kN 8) (kT 8) 10 ∈ lw_tbl := lw_in (List.mem_of_getElem? (i := 750) (by decide +kernel))
theorem ly8_11 : u_lay (kN 8) (kT 8) 11 ∈ lw_tbl := lw_in (List.mem_of_getElem? (i := 752) (by decide +kernel))
theorem ly8_12 : u_lay (kN 8) (kT 8) 12 ∈ lw_tbl := lw_in (List.mem_of_getElem? (i := 754) (by decide +kernel))
theorem ly8_13 : u_lay (kN 8) (kT 8) 13 ∈ lw_tbl := lw_in (List.mem_of_getElem? (i := 756) (by decide +kernel))
theorem ly8_14 : u_lay (kN 8) (kT 8) 14 ∈ lw_tbl := lw_in (List.mem_of_getElem? (i := 758) (by decide +kernel))
theorem ly8_15 : u_lay (kN 8) (kT 8) 15 ∈ lw_tbl := lw_in (List.mem_of_getElem? (i := 760) (by decide +kernel))
theorem ly8_16 : u_lay (kN 8) (kT 8) 16 ∈ lw_tbl := lw_in (List.mem_of_getElem? (i := 762) (by decide +kernel))
theorem ly8_17 : u_lay (kN 8) (kT 8) 17 ∈ lw_tbl := lw_in (List.mem_of_getElem? (i := 764) (by decide +kernel))
theorem ly8_18 : u_lay (kN 8) (kT 8) 18 ∈ lw_tbl := lw_in (List.mem_of_getElem? (i := 766) (by decide +kernel))
theorem ly8_19 : u_lay (kN 8) (kT 8) 19 ∈ lw_tbl := lw_in (List.mem_of_getElem? (i := 768) (by decide +kernel))
theorem ly8_20 : u_lay (kN 8) (kT 8) 20 ∈ lw_tbl := lw_in (List.mem_of_getElem? (i := 770) (by decide +kernel))
theorem ly8_21 : u_lay (kN 8) (kT 8) 21 ∈ lw_tbl := lw_in (List.mem_of_getElem? (i := 772) (by decide +kernel))
theorem ly8_22 : u_lay (kN 8) (kT 8) 22 ∈ lw_tbl := lw_in (List.mem_of_getElem? (i := 774) (by decide +kernel))
theorem ly8_23 : u_lay (kN 8) (kT 8) 23 ∈ lw_tbl := lw_in (List.mem_of_getElem? (i := 776) (by decide +kernel))
theorem ly8_24 : u_lay (kN 8) (kT 8) 24 ∈ lw_tbl := lw_in (List.mem_of_getElem? (i := 778) (by decide +kernel))
theorem ly8_25 : u_lay (kN 8) (kT 8) 25 ∈ lw_tbl := lw_in (List.mem_of_getElem? (i := 780) (by decide +kernel))
theorem ly8_26 : u_lay (kN 8) (kT 8) 26 ∈ lw_tbl := lw_in (List.mem_of_getElem? (i := 782) (by decide +kernel))
theorem ly8_27 : u_lay (kN 8) (kT 8) 27 ∈ lw_tbl := lw_in (List.mem_of_getElem? (i := 784) (by decide +kernel))
theorem ly8_28 : u_lay (kN 8) (kT 8) 28 ∈ lw_tbl := lw_in (List.mem_of_getElem? (i := 786) (by decide +kernel))
theorem ly8_29 : u_lay (kN 8) (kT 8) 29 ∈ lw_tbl := lw_in (List.mem_of_getElem? (i := 788) (by decide +kernel))
theorem ly8_30 : u_lay (kN 8) (kT 8) 30 ∈ lw_tbl := lw_in (List.mem_of_getElem? (i := 790) (by decide +kernel))
theorem ly8_31 : u_lay (kN 8) (kT 8) 31 ∈ lw_tbl := lw_in (List.mem_of_getElem? (i := 792) (by decide +kernel))
theorem ly8_32 : u_lay (kN 8) (kT 8) 32 ∈ lw_tbl := lw_in (List.mem_of_getElem? (i := 794) (by decide +kernel))
theorem ly8_33 : u_lay (kN 8) (kT 8) 33 ∈ lw_tbl := lw_in (List.mem_of_getElem? (i := 796) (by decide +kernel))
theorem ly8 : ∀ k, k < kF 8 → u_lay (kN 8) (kT 8) k ∈ lw_tbl := fun k hk => match k, hk with
  | 0, _ => ly8_0
  | 1, _ => ly8_1
  | 2, _ => ly8_2
  | 3, _ => ly8_3
  | 4, _ => ly8_4
  | 5, _ => ly8_5
  | 6, _ => ly8_6
  | 7, _ => ly8_7
  | 8, _ => ly8_8
  | 9, _ => ly8_9
  | 10, _ => ly8_10
  | 11, _ => ly8_11
  | 12, _ => ly8_12
  | 13, _ => ly8_13
  | 14, _ => ly8_14
  | 15, _ => ly8_15
  | 16, _ => ly8_16
  | 17, _ => ly8_17
  | 18, _ => ly8_18
  | 19, _ => ly8_19
  | 20, _ => ly8_20
  | 21, _ => ly8_21
  | 22, _ => ly8_22
  | 23, _ => ly8_23
  | 24, _ => ly8_24
  | 25, _ => ly8_25
  | 26, _ => ly8_26
  | 27, _ => ly8_27
  | 28, _ => ly8_28
  | 29, _ => ly8_29
  | 30, _ => ly8_30
  | 31, _ => ly8_31
  | 32, _ => ly8_32
  | 33, _ => ly8_33
  | k + 34, h => absurd h (by simp [kF])
theorem ly_all (c : Nat) : ∀ w ∈ u_ws (kN c) (kT c) (kF c), w ∈ lw_tbl := by
  intro w hw
  obtain ⟨k, hk, rfl⟩ := List.mem_map.mp hw
  have hk := List.mem_range.mp hk
  match c, hk with
  | 0, hk => exact ly0 k hk
  | 1, hk => exact ly1 k hk
  | 2, hk => exact ly2 k hk
  | 3, hk => exact ly3 k hk
  | 4, hk => exact ly4 k hk
  | 5, hk => exact ly5 k hk
  | 6, hk => exact ly6 k hk
  | 7, hk => exact ly7 k hk
  | 8, hk => exact ly8 k hk
  | c + 9, hk => exact absurd hk (Nat.not_lt_zero k)
theorem ky0 : ∀ k, k < kF 0 → parseFieldDescriptor (kT 0 k).2.2.1 = some (kY 0 k) := by decide +kernel
theorem kn0 : ∀ a, a < kF 0 → ∀ b, b < kF 0 → a ≠ b → (kT 0 a).2.1 ≠ (kT 0 b).2.1 := by decide +kernel
theorem ky1 : ∀ k, k < kF 1 → parseFieldDescriptor (kT 1 k).2.2.1 = some (kY 1 k) := by decide +kernel
theorem kn1 : ∀ a, a < kF 1 → ∀ b, b < kF 1 → a ≠ b → (kT 1 a).2.1 ≠ (kT 1 b).2.1 := by decide +kernel
theorem ky2 : ∀ k, k < kF 2 → parseFieldDescriptor (kT 2 k).2.2.1 = some (kY 2 k) := by decide +kernel
theorem kn2 : ∀ a, a < kF 2 → ∀ b, b < kF 2 → a ≠ b → (kT 2 a).2.1 ≠ (kT 2 b).2.1 := by decide +kernel
theorem ky3 : ∀ k, k < kF 3 → parseFieldDescriptor (kT 3 k).2.2.1 = some (kY 3 k) := by decide +kernel
theorem kn3 : ∀ a, a < kF 3 → ∀ b, b < kF 3 → a ≠ b → (kT 3 a).2.1 ≠ (kT 3 b).2.1 := by decide +kernel
theorem ky4 : ∀ k, k < kF 4 → parseFieldDescriptor (kT 4 k).2.2.1 = some (kY 4 k) := by decide +kernel
theorem kn4 : ∀ a, a < kF 4 → ∀ b, b < kF 4 → a ≠ b → (kT 4 a).2.1 ≠ (kT 4 b).2.1 := by decide +kernel
theorem ky5 : ∀ k, k < kF 5 → parseFieldDescriptor (kT 5 k).2.2.1 = some (kY 5 k) := by decide +kernel
theorem kn5 : ∀ a, a < kF 5 → ∀ b, b < kF 5 → a ≠ b → (kT 5 a).2.1 ≠ (kT 5 b).2.1 := by decide +kernel
theorem ky6 : ∀ k, k < kF 6 → parseFieldDescriptor (kT 6 k).2.2.1 = some (kY 6 k) := by decide +kernel
theorem kn6 : ∀ a, a < kF 6 → ∀ b, b < kF 6 → a ≠ b → (kT 6 a).2.1 ≠ (kT 6 b).2.1 := by decide +kernel
theorem ky7 : ∀ k, k < kF 7 → parseFieldDescriptor (kT 7 k).2.2.1 = some (kY 7 k) := by decide +kernel
theorem kn7 : ∀ a, a < kF 7 → ∀ b, b < kF 7 → a ≠ b → (kT 7 a).2.1 ≠ (kT 7 b).2.1 := by decide +kernel
theorem ky8 : ∀ k, k < kF 8 → parseFieldDescriptor (kT 8 k).2.2.1 = some (kY 8 k) := by decide +kernel
theorem kn8 : ∀ a, a < kF 8 → ∀ b, b < kF 8 → a ≠ b → (kT 8 a).2.1 ≠ (kT 8 b).2.1 := by decide +kernel
theorem ky_all (c : Nat) : ∀ k, k < kF c → parseFieldDescriptor (kT c k).2.2.1 = some (kY c k) := by
  match c with
  | 0 => exact ky0
  | 1 => exact ky1
  | 2 => exact ky2
  | 3 => exact ky3
  | 4 => exact ky4
  | 5 => exact ky5
  | 6 => exact ky6
  | 7 => exact ky7
  | 8 => exact ky8
  | c + 9 => exact fun k hk => absurd hk (Nat.not_lt_zero k)
theorem kn_all (c : Nat) : ∀ a, a < kF c → ∀ b, b < kF c → a ≠ b → (kT c a).2.1 ≠ (kT c b).2.1 := by
  match c with
  | 0 => exact kn0
  | 1 => exact kn1
  | 2 => exact kn2
  | 3 => exact kn3
  | 4 => exact kn4
  | 5 => exact kn5
  | 6 => exact kn6
  | 7 => exact kn7
  | 8 => exact kn8
  | c + 9 => exact fun k hk => absurd hk (Nat.not_lt_zero k)
theorem vw_at {c : Nat} (h : c < 12) : vwCl[c]? = some (kN c, kT c, kF c) := by
  match c, h with
  | 0, _ => rfl
  | 1, _ => rfl
  | 2, _ => rfl
  | 3, _ => rfl
  | 4, _ => rfl
  | 5, _ => rfl
  | 6, _ => rfl
  | 7, _ => rfl
  | 8, _ => rfl
  | 9, _ => rfl
  | 10, _ => rfl
  | 11, _ => rfl
  | c + 12, h => exact absurd h (by omega)
abbrev KT : Type := ByteArray × String × String × List (Nat × Nat × Nat × Nat) × Nat × Option FieldType
def k_Fi_init : KT := (prog_1_method_1_code, "FileIndexer", "<init>", [], 1, none)
def y_Fi_init : MethodName := ⟨"FileIndexer", "<init>", "()V"⟩
def k_Tr_init : KT := (prog_8_method_1_code, "FileIndexer$Tree", "<init>", [], 1, none)
def y_Tr_init : MethodName := ⟨"FileIndexer$Tree", "<init>", "()V"⟩
def k_Qu_init : KT := (prog_5_method_1_code, "FileIndexer$Queue", "<init>", [], 1, none)
def y_Qu_init : MethodName := ⟨"FileIndexer$Queue", "<init>", "()V"⟩
def k_Ix_init : KT := (prog_3_method_1_code, "FileIndexer$Index", "<init>", [], 2, none)
def y_Ix_init : MethodName := ⟨"FileIndexer$Index", "<init>", "()V"⟩
def k_En_init : KT := (prog_2_method_1_code, "FileIndexer$Entry", "<init>", [], 1, none)
def y_En_init : MethodName := ⟨"FileIndexer$Entry", "<init>", "()V"⟩
def k_Qy_init : KT := (prog_4_method_1_code, "FileIndexer$Query", "<init>", [], 2, none)
def y_Qy_init : MethodName := ⟨"FileIndexer$Query", "<init>", "()V"⟩
def k_Tm_init : KT := (prog_7_method_1_code, "FileIndexer$Term", "<init>", [], 1, none)
def y_Tm_init : MethodName := ⟨"FileIndexer$Term", "<init>", "()V"⟩
def k_Rk_init : KT := (prog_6_method_1_code, "FileIndexer$Ranking", "<init>", [], 1, none)
def y_Rk_init : MethodName := ⟨"FileIndexer$Ranking", "<init>", "()V"⟩
def k_Fi_rescan : KT := (prog_1_method_8_code, "FileIndexer", "rescan", [], 3, some .int)
def y_Fi_rescan : MethodName := ⟨"FileIndexer", "rescan", "()I"⟩
def k_Tr_isFile : KT := (prog_8_method_4_code, "FileIndexer$Tree", "isFile", [], 2, some .boolean)
def y_Tr_isFile : MethodName := ⟨"FileIndexer$Tree", "isFile", "(I)Z"⟩
def k_Fi_isNode : KT := (prog_1_method_21_code, "FileIndexer", "isNode", [], 1, some .boolean)
def y_Fi_isNode : MethodName := ⟨"FileIndexer", "isNode", "(I)Z"⟩
def k_Fi_readFile : KT := (prog_1_method_18_code, "FileIndexer", "readFile", [], 2, none)
def y_Fi_readFile : MethodName := ⟨"FileIndexer", "readFile", "(I)V"⟩
def k_Tr_contentOf : KT := (prog_8_method_10_code, "FileIndexer$Tree", "contentOf", [], 2, some (.array .int))
def y_Tr_contentOf : MethodName := ⟨"FileIndexer$Tree", "contentOf", "(I)[I"⟩
def k_Tr_lengthOf : KT := (prog_8_method_11_code, "FileIndexer$Tree", "lengthOf", [], 2, some .int)
def y_Tr_lengthOf : MethodName := ⟨"FileIndexer$Tree", "lengthOf", "(I)I"⟩
def k_Ix_read : KT := (prog_3_method_4_code, "FileIndexer$Index", "read", [], 4, none)
def y_Ix_read : MethodName := ⟨"FileIndexer$Index", "read", "(I[II)V"⟩
def k_En_take : KT := (prog_2_method_5_code, "FileIndexer$Entry", "take", [], 9, none)
def y_En_take : MethodName := ⟨"FileIndexer$Entry", "take", "([II)V"⟩
def k_En_titleEndOf : KT := (prog_2_method_7_code, "FileIndexer$Entry", "titleEndOf", [], 3, some .int)
def y_En_titleEndOf : MethodName := ⟨"FileIndexer$Entry", "titleEndOf", "([II)I"⟩
def k_Fi_isLetter : KT := (prog_1_method_26_code, "FileIndexer", "isLetter", [], 1, some .boolean)
def y_Fi_isLetter : MethodName := ⟨"FileIndexer", "isLetter", "(I)Z"⟩
def k_Fi_withLetter : KT := (prog_1_method_27_code, "FileIndexer", "withLetter", [], 6, some .long)
def y_Fi_withLetter : MethodName := ⟨"FileIndexer", "withLetter", "(JII)J"⟩
def k_En_add : KT := (prog_2_method_6_code, "FileIndexer$Entry", "add", [], 4, none)
def y_En_add : MethodName := ⟨"FileIndexer$Entry", "add", "(JI)V"⟩
def k_Ix_forget : KT := (prog_3_method_5_code, "FileIndexer$Index", "forget", [], 2, none)
def y_Ix_forget : MethodName := ⟨"FileIndexer$Index", "forget", "(I)V"⟩
def k_Qu_startAnew : KT := (prog_5_method_6_code, "FileIndexer$Queue", "startAnew", [], 1, none)
def y_Qu_startAnew : MethodName := ⟨"FileIndexer$Queue", "startAnew", "()V"⟩
def k_Fi_fault : KT := (prog_1_method_11_code, "FileIndexer", "fault", [], 1, some .int)
def y_Fi_fault : MethodName := ⟨"FileIndexer", "fault", "()I"⟩
def k_Fi_make : KT := (prog_1_method_2_code, "FileIndexer", "make", [], 4, some .int)
def y_Fi_make : MethodName := ⟨"FileIndexer", "make", "(IIZ)I"⟩
def k_Fi_isNodeBelowRoot : KT := (prog_1_method_22_code, "FileIndexer", "isNodeBelowRoot", [], 1, some .boolean)
def y_Fi_isNodeBelowRoot : MethodName := ⟨"FileIndexer", "isNodeBelowRoot", "(I)Z"⟩
def k_Tr_isThere : KT := (prog_8_method_2_code, "FileIndexer$Tree", "isThere", [], 2, some .boolean)
def y_Tr_isThere : MethodName := ⟨"FileIndexer$Tree", "isThere", "(I)Z"⟩
def k_Tr_isFolder : KT := (prog_8_method_3_code, "FileIndexer$Tree", "isFolder", [], 2, some .boolean)
def y_Tr_isFolder : MethodName := ⟨"FileIndexer$Tree", "isFolder", "(I)Z"⟩
def k_Tr_put : KT := (prog_8_method_7_code, "FileIndexer$Tree", "put", [], 4, none)
def y_Tr_put : MethodName := ⟨"FileIndexer$Tree", "put", "(IIZ)V"⟩
def k_Qu_tell : KT := (prog_5_method_7_code, "FileIndexer$Queue", "tell", [], 4, none)
def y_Qu_tell : MethodName := ⟨"FileIndexer$Queue", "tell", "(II)V"⟩
def k_Qu_placeOf : KT := (prog_5_method_9_code, "FileIndexer$Queue", "placeOf", [], 3, some .int)
def y_Qu_placeOf : MethodName := ⟨"FileIndexer$Queue", "placeOf", "(I)I"⟩
def k_Qu_putTogether : KT := (prog_5_method_10_code, "FileIndexer$Queue", "putTogether", [], 4, none)
def y_Qu_putTogether : MethodName := ⟨"FileIndexer$Queue", "putTogether", "(II)V"⟩
def k_Qu_drop : KT := (prog_5_method_8_code, "FileIndexer$Queue", "drop", [], 3, none)
def y_Qu_drop : MethodName := ⟨"FileIndexer$Queue", "drop", "(I)V"⟩
def k_Fi_write : KT := (prog_1_method_3_code, "FileIndexer", "write", [], 6, some .int)
def y_Fi_write : MethodName := ⟨"FileIndexer", "write", "(IJI)I"⟩
def k_Fi_areCodes : KT := (prog_1_method_25_code, "FileIndexer", "areCodes", [], 4, some .boolean)
def y_Fi_areCodes : MethodName := ⟨"FileIndexer", "areCodes", "(JI)Z"⟩
def k_Fi_byteOf : KT := (prog_1_method_24_code, "FileIndexer", "byteOf", [], 3, some .int)
def y_Fi_byteOf : MethodName := ⟨"FileIndexer", "byteOf", "(JI)I"⟩
def k_Fi_isCode : KT := (prog_1_method_23_code, "FileIndexer", "isCode", [], 1, some .boolean)
def y_Fi_isCode : MethodName := ⟨"FileIndexer", "isCode", "(I)Z"⟩
def k_Tr_append : KT := (prog_8_method_12_code, "FileIndexer$Tree", "append", [], 3, none)
def y_Tr_append : MethodName := ⟨"FileIndexer$Tree", "append", "(II)V"⟩
def k_Fi_cut : KT := (prog_1_method_4_code, "FileIndexer", "cut", [], 4, some .int)
def y_Fi_cut : MethodName := ⟨"FileIndexer", "cut", "(II)I"⟩
def k_Tr_shorten : KT := (prog_8_method_13_code, "FileIndexer$Tree", "shorten", [], 3, none)
def y_Tr_shorten : MethodName := ⟨"FileIndexer$Tree", "shorten", "(II)V"⟩
def k_Fi_remove : KT := (prog_1_method_5_code, "FileIndexer", "remove", [], 4, some .int)
def y_Fi_remove : MethodName := ⟨"FileIndexer", "remove", "(I)I"⟩
def k_Tr_isWithin : KT := (prog_8_method_6_code, "FileIndexer$Tree", "isWithin", [], 5, some .boolean)
def y_Tr_isWithin : MethodName := ⟨"FileIndexer$Tree", "isWithin", "(II)Z"⟩
def k_Fi_removeOne : KT := (prog_1_method_16_code, "FileIndexer", "removeOne", [], 3, none)
def y_Fi_removeOne : MethodName := ⟨"FileIndexer", "removeOne", "(I)V"⟩
def k_Tr_drop : KT := (prog_8_method_9_code, "FileIndexer$Tree", "drop", [], 2, none)
def y_Tr_drop : MethodName := ⟨"FileIndexer$Tree", "drop", "(I)V"⟩
def k_Fi_move : KT := (prog_1_method_6_code, "FileIndexer", "move", [], 3, some .int)
def y_Fi_move : MethodName := ⟨"FileIndexer", "move", "(II)I"⟩
def k_Tr_parentOf : KT := (prog_8_method_5_code, "FileIndexer$Tree", "parentOf", [], 2, some .int)
def y_Tr_parentOf : MethodName := ⟨"FileIndexer$Tree", "parentOf", "(I)I"⟩
def k_Tr_hang : KT := (prog_8_method_8_code, "FileIndexer$Tree", "hang", [], 3, none)
def y_Tr_hang : MethodName := ⟨"FileIndexer$Tree", "hang", "(II)V"⟩
def k_Fi_work : KT := (prog_1_method_7_code, "FileIndexer", "work", [], 4, some .int)
def y_Fi_work : MethodName := ⟨"FileIndexer", "work", "(I)I"⟩
def k_Qu_isLost : KT := (prog_5_method_3_code, "FileIndexer$Queue", "isLost", [], 1, some .boolean)
def y_Qu_isLost : MethodName := ⟨"FileIndexer$Queue", "isLost", "()Z"⟩
def k_Qu_size : KT := (prog_5_method_2_code, "FileIndexer$Queue", "size", [], 1, some .int)
def y_Qu_size : MethodName := ⟨"FileIndexer$Queue", "size", "()I"⟩
def k_Mt_min : KT := (prog_14_method_69_code, "java/lang/Math", "min", [], 2, some .int)
def y_Mt_min : MethodName := ⟨"java/lang/Math", "min", "(II)I"⟩
def k_Qu_kindAt : KT := (prog_5_method_4_code, "FileIndexer$Queue", "kindAt", [], 2, some .int)
def y_Qu_kindAt : MethodName := ⟨"FileIndexer$Queue", "kindAt", "(I)I"⟩
def k_Qu_fileAt : KT := (prog_5_method_5_code, "FileIndexer$Queue", "fileAt", [], 2, some .int)
def y_Qu_fileAt : MethodName := ⟨"FileIndexer$Queue", "fileAt", "(I)I"⟩
def k_Fi_follow : KT := (prog_1_method_17_code, "FileIndexer", "follow", [], 3, none)
def y_Fi_follow : MethodName := ⟨"FileIndexer", "follow", "(II)V"⟩
def k_Fi_type : KT := (prog_1_method_9_code, "FileIndexer", "type", [], 2, some .int)
def y_Fi_type : MethodName := ⟨"FileIndexer", "type", "(I)I"⟩
def k_Qy_length : KT := (prog_4_method_2_code, "FileIndexer$Query", "length", [], 1, some .int)
def y_Qy_length : MethodName := ⟨"FileIndexer$Query", "length", "()I"⟩
def k_Qy_append : KT := (prog_4_method_3_code, "FileIndexer$Query", "append", [], 2, none)
def y_Qy_append : MethodName := ⟨"FileIndexer$Query", "append", "(I)V"⟩
def k_Fi_search : KT := (prog_1_method_10_code, "FileIndexer", "search", [], 3, some .int)
def y_Fi_search : MethodName := ⟨"FileIndexer", "search", "(I)I"⟩
def k_Rk_clear : KT := (prog_6_method_5_code, "FileIndexer$Ranking", "clear", [], 1, none)
def y_Rk_clear : MethodName := ⟨"FileIndexer$Ranking", "clear", "()V"⟩
def k_Qy_parse : KT := (prog_4_method_5_code, "FileIndexer$Query", "parse", [], 2, some .int)
def y_Qy_parse : MethodName := ⟨"FileIndexer$Query", "parse", "()I"⟩
def k_Qy_parseAlternative : KT := (prog_4_method_12_code, "FileIndexer$Query", "parseAlternative", [], 2, none)
def y_Qy_parseAlternative : MethodName := ⟨"FileIndexer$Query", "parseAlternative", "()V"⟩
def k_Qy_skipBlanks : KT := (prog_4_method_11_code, "FileIndexer$Query", "skipBlanks", [], 1, none)
def y_Qy_skipBlanks : MethodName := ⟨"FileIndexer$Query", "skipBlanks", "()V"⟩
def k_Qy_parseTerm : KT := (prog_4_method_13_code, "FileIndexer$Query", "parseTerm", [], 2, none)
def y_Qy_parseTerm : MethodName := ⟨"FileIndexer$Query", "parseTerm", "()V"⟩
def k_Tm_begin : KT := (prog_7_method_2_code, "FileIndexer$Term", "begin", [], 2, none)
def y_Tm_begin : MethodName := ⟨"FileIndexer$Term", "begin", "(I)V"⟩
def k_Qy_next : KT := (prog_4_method_9_code, "FileIndexer$Query", "next", [], 1, some .int)
def y_Qy_next : MethodName := ⟨"FileIndexer$Query", "next", "()I"⟩
def k_Tm_forbid : KT := (prog_7_method_5_code, "FileIndexer$Term", "forbid", [], 1, none)
def y_Tm_forbid : MethodName := ⟨"FileIndexer$Term", "forbid", "()V"⟩
def k_Qy_parsePhrase : KT := (prog_4_method_16_code, "FileIndexer$Query", "parsePhrase", [], 3, none)
def y_Qy_parsePhrase : MethodName := ⟨"FileIndexer$Query", "parsePhrase", "(LFileIndexer$Term;)V"⟩
def k_Qy_isFaulty : KT := (prog_4_method_8_code, "FileIndexer$Query", "isFaulty", [], 1, some .boolean)
def y_Qy_isFaulty : MethodName := ⟨"FileIndexer$Query", "isFaulty", "()Z"⟩
def k_Qy_parseWord : KT := (prog_4_method_17_code, "FileIndexer$Query", "parseWord", [], 5, none)
def y_Qy_parseWord : MethodName := ⟨"FileIndexer$Query", "parseWord", "(LFileIndexer$Term;)V"⟩
def k_Tm_add : KT := (prog_7_method_7_code, "FileIndexer$Term", "add", [], 3, none)
def y_Tm_add : MethodName := ⟨"FileIndexer$Term", "add", "(J)V"⟩
def k_Tm_isEmpty : KT := (prog_7_method_6_code, "FileIndexer$Term", "isEmpty", [], 1, some .boolean)
def y_Tm_isEmpty : MethodName := ⟨"FileIndexer$Term", "isEmpty", "()Z"⟩
def k_Qy_parseWordOrBeginning : KT := (prog_4_method_15_code, "FileIndexer$Query", "parseWordOrBeginning", [], 3, none)
def y_Qy_parseWordOrBeginning : MethodName := ⟨"FileIndexer$Query", "parseWordOrBeginning", "(LFileIndexer$Term;)V"⟩
def k_Tm_compareOnly : KT := (prog_7_method_8_code, "FileIndexer$Term", "compareOnly", [], 2, none)
def y_Tm_compareOnly : MethodName := ⟨"FileIndexer$Term", "compareOnly", "(I)V"⟩
def k_Qy_endTerm : KT := (prog_4_method_14_code, "FileIndexer$Query", "endTerm", [], 1, none)
def y_Qy_endTerm : MethodName := ⟨"FileIndexer$Query", "endTerm", "()V"⟩
def k_Qy_atAlternativeEnd : KT := (prog_4_method_10_code, "FileIndexer$Query", "atAlternativeEnd", [], 1, some .boolean)
def y_Qy_atAlternativeEnd : MethodName := ⟨"FileIndexer$Query", "atAlternativeEnd", "()Z"⟩
def k_Qy_clearText : KT := (prog_4_method_4_code, "FileIndexer$Query", "clearText", [], 1, none)
def y_Qy_clearText : MethodName := ⟨"FileIndexer$Query", "clearText", "()V"⟩
def k_Ix_has : KT := (prog_3_method_2_code, "FileIndexer$Index", "has", [], 2, some .boolean)
def y_Ix_has : MethodName := ⟨"FileIndexer$Index", "has", "(I)Z"⟩
def k_Fi_isSearched : KT := (prog_1_method_19_code, "FileIndexer", "isSearched", [], 3, some .boolean)
def y_Fi_isSearched : MethodName := ⟨"FileIndexer", "isSearched", "(II)Z"⟩
def k_Fi_rank : KT := (prog_1_method_20_code, "FileIndexer", "rank", [], 3, none)
def y_Fi_rank : MethodName := ⟨"FileIndexer", "rank", "(I)V"⟩
def k_Ix_entryOf : KT := (prog_3_method_3_code, "FileIndexer$Index", "entryOf", [], 2, some (.object "FileIndexer$Entry"))
def y_Ix_entryOf : MethodName := ⟨"FileIndexer$Index", "entryOf", "(I)LFileIndexer$Entry;"⟩
def k_Qy_scoreOf : KT := (prog_4_method_6_code, "FileIndexer$Query", "scoreOf", [], 5, some .int)
def y_Qy_scoreOf : MethodName := ⟨"FileIndexer$Query", "scoreOf", "(LFileIndexer$Entry;)I"⟩
def k_Qy_partOf : KT := (prog_4_method_7_code, "FileIndexer$Query", "partOf", [], 7, some .int)
def y_Qy_partOf : MethodName := ⟨"FileIndexer$Query", "partOf", "(LFileIndexer$Entry;I)I"⟩
def k_Tm_isOf : KT := (prog_7_method_3_code, "FileIndexer$Term", "isOf", [], 2, some .boolean)
def y_Tm_isOf : MethodName := ⟨"FileIndexer$Term", "isOf", "(I)Z"⟩
def k_Tm_weightIn : KT := (prog_7_method_9_code, "FileIndexer$Term", "weightIn", [], 4, some .int)
def y_Tm_weightIn : MethodName := ⟨"FileIndexer$Term", "weightIn", "(LFileIndexer$Entry;)I"⟩
def k_En_size : KT := (prog_2_method_2_code, "FileIndexer$Entry", "size", [], 1, some .int)
def y_En_size : MethodName := ⟨"FileIndexer$Entry", "size", "()I"⟩
def k_Tm_hits : KT := (prog_7_method_10_code, "FileIndexer$Term", "hits", [], 4, some .boolean)
def y_Tm_hits : MethodName := ⟨"FileIndexer$Term", "hits", "(LFileIndexer$Entry;I)Z"⟩
def k_En_wordAt : KT := (prog_2_method_3_code, "FileIndexer$Entry", "wordAt", [], 2, some .long)
def y_En_wordAt : MethodName := ⟨"FileIndexer$Entry", "wordAt", "(I)J"⟩
def k_En_weightAt : KT := (prog_2_method_4_code, "FileIndexer$Entry", "weightAt", [], 2, some .int)
def y_En_weightAt : MethodName := ⟨"FileIndexer$Entry", "weightAt", "(I)I"⟩
def k_Tm_isUnwanted : KT := (prog_7_method_4_code, "FileIndexer$Term", "isUnwanted", [], 1, some .boolean)
def y_Tm_isUnwanted : MethodName := ⟨"FileIndexer$Term", "isUnwanted", "()Z"⟩
def k_Mt_max : KT := (prog_14_method_65_code, "java/lang/Math", "max", [], 2, some .int)
def y_Mt_max : MethodName := ⟨"java/lang/Math", "max", "(II)I"⟩
def k_Rk_add : KT := (prog_6_method_6_code, "FileIndexer$Ranking", "add", [], 4, none)
def y_Rk_add : MethodName := ⟨"FileIndexer$Ranking", "add", "(II)V"⟩
def k_Rk_size : KT := (prog_6_method_2_code, "FileIndexer$Ranking", "size", [], 1, some .int)
def y_Rk_size : MethodName := ⟨"FileIndexer$Ranking", "size", "()I"⟩
def k_Fi_result : KT := (prog_1_method_12_code, "FileIndexer", "result", [], 3, some .int)
def y_Fi_result : MethodName := ⟨"FileIndexer", "result", "(II)I"⟩
def k_Rk_fileAt : KT := (prog_6_method_3_code, "FileIndexer$Ranking", "fileAt", [], 2, some .int)
def y_Rk_fileAt : MethodName := ⟨"FileIndexer$Ranking", "fileAt", "(I)I"⟩
def k_Rk_scoreAt : KT := (prog_6_method_4_code, "FileIndexer$Ranking", "scoreAt", [], 2, some .int)
def y_Rk_scoreAt : MethodName := ⟨"FileIndexer$Ranking", "scoreAt", "(I)I"⟩
def k_Fi_words : KT := (prog_1_method_13_code, "FileIndexer", "words", [], 2, some .int)
def y_Fi_words : MethodName := ⟨"FileIndexer", "words", "(I)I"⟩
def k_Fi_event : KT := (prog_1_method_14_code, "FileIndexer", "event", [], 2, some .int)
def y_Fi_event : MethodName := ⟨"FileIndexer", "event", "(I)I"⟩
def k_Fi_count : KT := (prog_1_method_15_code, "FileIndexer", "count", [], 2, some .int)
def y_Fi_count : MethodName := ⟨"FileIndexer", "count", "(I)I"⟩
def k_Tr_nodesThere : KT := (prog_8_method_14_code, "FileIndexer$Tree", "nodesThere", [], 3, some .int)
def y_Tr_nodesThere : MethodName := ⟨"FileIndexer$Tree", "nodesThere", "()I"⟩
def k_Tr_filesThere : KT := (prog_8_method_15_code, "FileIndexer$Tree", "filesThere", [], 3, some .int)
def y_Tr_filesThere : MethodName := ⟨"FileIndexer$Tree", "filesThere", "()I"⟩
def k_Ix_size : KT := (prog_3_method_6_code, "FileIndexer$Index", "size", [], 3, some .int)
def y_Ix_size : MethodName := ⟨"FileIndexer$Index", "size", "()I"⟩
def k_Ix_timesRead : KT := (prog_3_method_7_code, "FileIndexer$Index", "timesRead", [], 1, some .int)
def y_Ix_timesRead : MethodName := ⟨"FileIndexer$Index", "timesRead", "()I"⟩
def k_Md_init : KT := (prog_10_method_1_code, "FileIndexerModel", "<init>", [], 1, none)
def y_Md_init : MethodName := ⟨"FileIndexerModel", "<init>", "()V"⟩
def k_Md_thrown : KT := (prog_10_method_2_code, "FileIndexerModel", "thrown", [], 1, some .int)
def y_Md_thrown : MethodName := ⟨"FileIndexerModel", "thrown", "()I"⟩
def k_Md_make : KT := (prog_10_method_11_code, "FileIndexerModel", "make", [], 4, some .int)
def y_Md_make : MethodName := ⟨"FileIndexerModel", "make", "(IIZ)I"⟩
def k_Md_in : KT := (prog_10_method_4_code, "FileIndexerModel", "in", [], 3, some .boolean)
def y_Md_in : MethodName := ⟨"FileIndexerModel", "in", "(III)Z"⟩
def k_Md_raise : KT := (prog_10_method_3_code, "FileIndexerModel", "raise", [], 2, some .int)
def y_Md_raise : MethodName := ⟨"FileIndexerModel", "raise", "(I)I"⟩
def k_Md_isFolder : KT := (prog_10_method_5_code, "FileIndexerModel", "isFolder", [], 2, some .boolean)
def y_Md_isFolder : MethodName := ⟨"FileIndexerModel", "isFolder", "(I)Z"⟩
def k_Md_tell : KT := (prog_10_method_10_code, "FileIndexerModel", "tell", [], 4, none)
def y_Md_tell : MethodName := ⟨"FileIndexerModel", "tell", "(II)V"⟩
def k_Md_together : KT := (prog_10_method_8_code, "FileIndexerModel", "together", [], 2, some .int)
def y_Md_together : MethodName := ⟨"FileIndexerModel", "together", "(II)I"⟩
def k_Md_drop : KT := (prog_10_method_9_code, "FileIndexerModel", "drop", [], 3, none)
def y_Md_drop : MethodName := ⟨"FileIndexerModel", "drop", "(I)V"⟩
def k_Md_write : KT := (prog_10_method_12_code, "FileIndexerModel", "write", [], 6, some .int)
def y_Md_write : MethodName := ⟨"FileIndexerModel", "write", "(IJI)I"⟩
def k_Md_isFile : KT := (prog_10_method_6_code, "FileIndexerModel", "isFile", [], 2, some .boolean)
def y_Md_isFile : MethodName := ⟨"FileIndexerModel", "isFile", "(I)Z"⟩
def k_Md_cut : KT := (prog_10_method_13_code, "FileIndexerModel", "cut", [], 4, some .int)
def y_Md_cut : MethodName := ⟨"FileIndexerModel", "cut", "(II)I"⟩
def k_Md_remove : KT := (prog_10_method_14_code, "FileIndexerModel", "remove", [], 4, some .int)
def y_Md_remove : MethodName := ⟨"FileIndexerModel", "remove", "(I)I"⟩
def k_Md_mark : KT := (prog_10_method_15_code, "FileIndexerModel", "mark", [], 3, none)
def y_Md_mark : MethodName := ⟨"FileIndexerModel", "mark", "(I)V"⟩
def k_Md_within : KT := (prog_10_method_7_code, "FileIndexerModel", "within", [], 4, some .boolean)
def y_Md_within : MethodName := ⟨"FileIndexerModel", "within", "(II)Z"⟩
def k_Md_move : KT := (prog_10_method_16_code, "FileIndexerModel", "move", [], 4, some .int)
def y_Md_move : MethodName := ⟨"FileIndexerModel", "move", "(II)I"⟩
def k_Md_work : KT := (prog_10_method_19_code, "FileIndexerModel", "work", [], 4, some .int)
def y_Md_work : MethodName := ⟨"FileIndexerModel", "work", "(I)I"⟩
def k_Md_read : KT := (prog_10_method_18_code, "FileIndexerModel", "read", [], 11, none)
def y_Md_read : MethodName := ⟨"FileIndexerModel", "read", "(I)V"⟩
def k_Md_letter : KT := (prog_10_method_17_code, "FileIndexerModel", "letter", [], 1, some .int)
def y_Md_letter : MethodName := ⟨"FileIndexerModel", "letter", "(I)I"⟩
def k_Md_rescan : KT := (prog_10_method_20_code, "FileIndexerModel", "rescan", [], 3, some .int)
def y_Md_rescan : MethodName := ⟨"FileIndexerModel", "rescan", "()I"⟩
def k_Md_type : KT := (prog_10_method_21_code, "FileIndexerModel", "type", [], 2, some .int)
def y_Md_type : MethodName := ⟨"FileIndexerModel", "type", "(I)I"⟩
def k_Md_search : KT := (prog_10_method_33_code, "FileIndexerModel", "search", [], 7, some .int)
def y_Md_search : MethodName := ⟨"FileIndexerModel", "search", "(I)I"⟩
def k_Md_parse : KT := (prog_10_method_28_code, "FileIndexerModel", "parse", [], 4, some .int)
def y_Md_parse : MethodName := ⟨"FileIndexerModel", "parse", "()I"⟩
def k_Md_blanks : KT := (prog_10_method_23_code, "FileIndexerModel", "blanks", [], 1, none)
def y_Md_blanks : MethodName := ⟨"FileIndexerModel", "blanks", "()V"⟩
def k_Md_now : KT := (prog_10_method_22_code, "FileIndexerModel", "now", [], 1, some .int)
def y_Md_now : MethodName := ⟨"FileIndexerModel", "now", "()I"⟩
def k_Md_takeTerm : KT := (prog_10_method_27_code, "FileIndexerModel", "takeTerm", [], 2, none)
def y_Md_takeTerm : MethodName := ⟨"FileIndexerModel", "takeTerm", "(I)V"⟩
def k_Md_takePhrase : KT := (prog_10_method_26_code, "FileIndexerModel", "takePhrase", [], 2, none)
def y_Md_takePhrase : MethodName := ⟨"FileIndexerModel", "takePhrase", "()V"⟩
def k_Md_blame : KT := (prog_10_method_24_code, "FileIndexerModel", "blame", [], 1, none)
def y_Md_blame : MethodName := ⟨"FileIndexerModel", "blame", "()V"⟩
def k_Md_takeWord : KT := (prog_10_method_25_code, "FileIndexerModel", "takeWord", [], 4, none)
def y_Md_takeWord : MethodName := ⟨"FileIndexerModel", "takeWord", "()V"⟩
def k_Md_score : KT := (prog_10_method_31_code, "FileIndexerModel", "score", [], 6, some .int)
def y_Md_score : MethodName := ⟨"FileIndexerModel", "score", "(II)I"⟩
def k_Md_hits : KT := (prog_10_method_30_code, "FileIndexerModel", "hits", [], 8, some .int)
def y_Md_hits : MethodName := ⟨"FileIndexerModel", "hits", "(II)I"⟩
def k_Md_hit : KT := (prog_10_method_29_code, "FileIndexerModel", "hit", [], 4, some .boolean)
def y_Md_hit : MethodName := ⟨"FileIndexerModel", "hit", "(II)Z"⟩
def k_Md_place : KT := (prog_10_method_32_code, "FileIndexerModel", "place", [], 4, none)
def y_Md_place : MethodName := ⟨"FileIndexerModel", "place", "(II)V"⟩
def k_Md_fault : KT := (prog_10_method_34_code, "FileIndexerModel", "fault", [], 1, some .int)
def y_Md_fault : MethodName := ⟨"FileIndexerModel", "fault", "()I"⟩
def k_Md_result : KT := (prog_10_method_35_code, "FileIndexerModel", "result", [], 3, some .int)
def y_Md_result : MethodName := ⟨"FileIndexerModel", "result", "(II)I"⟩
def k_Md_words : KT := (prog_10_method_36_code, "FileIndexerModel", "words", [], 2, some .int)
def y_Md_words : MethodName := ⟨"FileIndexerModel", "words", "(I)I"⟩
def k_Md_event : KT := (prog_10_method_37_code, "FileIndexerModel", "event", [], 2, some .int)
def y_Md_event : MethodName := ⟨"FileIndexerModel", "event", "(I)I"⟩
def k_Md_count : KT := (prog_10_method_38_code, "FileIndexerModel", "count", [], 4, some .int)
def y_Md_count : MethodName := ⟨"FileIndexerModel", "count", "(I)I"⟩
def k_Lw_make : KT := (method_3_code, "FileIndexerLaw", "make", [(0, 12, 15, 13), (0, 12, 19, 15)], 6, some .int)
def y_Lw_make : MethodName := ⟨"FileIndexerLaw", "make", "(LFileIndexer;IIZ[J)I"⟩
def k_Lw_write : KT := (method_4_code, "FileIndexerLaw", "write", [(0, 13, 16, 21), (0, 13, 20, 13), (0, 13, 24, 15)], 7, some .int)
def y_Lw_write : MethodName := ⟨"FileIndexerLaw", "write", "(LFileIndexer;IJI[J)I"⟩
def k_Lw_cut : KT := (method_5_code, "FileIndexerLaw", "cut", [(0, 10, 13, 21), (0, 10, 17, 13)], 5, some .int)
def y_Lw_cut : MethodName := ⟨"FileIndexerLaw", "cut", "(LFileIndexer;II[J)I"⟩
def k_Lw_remove : KT := (method_6_code, "FileIndexerLaw", "remove", [(0, 9, 12, 13), (0, 9, 15, 21)], 4, some .int)
def y_Lw_remove : MethodName := ⟨"FileIndexerLaw", "remove", "(LFileIndexer;I[J)I"⟩
def k_Lw_move : KT := (method_7_code, "FileIndexerLaw", "move", [(0, 10, 13, 13), (0, 10, 17, 21), (0, 10, 21, 15)], 5, some .int)
def y_Lw_move : MethodName := ⟨"FileIndexerLaw", "move", "(LFileIndexer;II[J)I"⟩
def k_Lw_work : KT := (method_8_code, "FileIndexerLaw", "work", [(0, 9, 12, 13), (0, 9, 15, 15)], 4, some .int)
def y_Lw_work : MethodName := ⟨"FileIndexerLaw", "work", "(LFileIndexer;I[J)I"⟩
def k_Lw_type : KT := (method_9_code, "FileIndexerLaw", "type", [(0, 9, 12, 13), (0, 9, 15, 15)], 4, some .int)
def y_Lw_type : MethodName := ⟨"FileIndexerLaw", "type", "(LFileIndexer;I[J)I"⟩
def k_Lw_search : KT := (method_10_code, "FileIndexerLaw", "search", [(0, 9, 12, 21), (0, 9, 15, 13)], 4, some .int)
def y_Lw_search : MethodName := ⟨"FileIndexerLaw", "search", "(LFileIndexer;I[J)I"⟩
def k_Lw_result : KT := (method_11_code, "FileIndexerLaw", "result", [(0, 10, 13, 21), (0, 10, 17, 13)], 5, some .int)
def y_Lw_result : MethodName := ⟨"FileIndexerLaw", "result", "(LFileIndexer;II[J)I"⟩
def k_Lw_words : KT := (method_12_code, "FileIndexerLaw", "words", [(0, 9, 12, 21)], 4, some .int)
def y_Lw_words : MethodName := ⟨"FileIndexerLaw", "words", "(LFileIndexer;I[J)I"⟩
def k_Lw_event : KT := (method_13_code, "FileIndexerLaw", "event", [(0, 9, 12, 21)], 4, some .int)
def y_Lw_event : MethodName := ⟨"FileIndexerLaw", "event", "(LFileIndexer;I[J)I"⟩
def k_Lw_count : KT := (method_14_code, "FileIndexerLaw", "count", [(0, 9, 12, 13)], 4, some .int)
def y_Lw_count : MethodName := ⟨"FileIndexerLaw", "count", "(LFileIndexer;I[J)I"⟩
def k_Lw_law : KT := (code, "FileIndexerLaw", "law", [], 7, some .boolean)
def y_Lw_law : MethodName := ⟨"FileIndexerLaw", "law", "([I)Z"⟩
end
section
/-! ===== THE MEMORY. What the law has made is numbered 0, 1, .. in the order of its making. A shape S: how many cells; of each its kind (a class's number below 32, or an array's sort from 32 on) and length; its references. The ints stand in I, the longs in J, by cell and place. ===== -/
abbrev CT : Type := State × Array Value × Nat × Nat × (Nat → Int32) × va_G × (Nat → ClassId)
abbrev ShT : Type := Nat × (Nat → Nat × Nat) × (Nat → Nat → Option Nat)
abbrev DI : Type := Nat → Nat → Int32
abbrev DJ : Type := Nat → Nat → Int64
abbrev cS (C : CT) : State := C.1
abbrev cG (C : CT) : Array Value := C.2.1
abbrev cB (C : CT) : Nat := C.2.2.1
abbrev cN (C : CT) : Nat := C.2.2.2.1
abbrev cX (C : CT) : Nat → Int32 := C.2.2.2.2.1
abbrev cD (C : CT) : va_G := C.2.2.2.2.2.1
abbrev cA (C : CT) : Nat → ClassId := C.2.2.2.2.2.2
abbrev c0 (C : CT) : Nat := C.1.heap.size
def fR (C : CT) (r : Option Nat) : Value := match r with
  | some k => .ref (c0 C + k)
  | none => .null
def fV (C : CT) (S : ShT) (I : DI) (J : DJ) (k j : Nat) (ty : FieldType) : Value := match ty with
  | .long => .long (J k j)
  | .object _ => fR C (S.2.2 k j)
  | .array _ => fR C (S.2.2 k j)
  | _ => .int (I k j)
def fL (C : CT) (S : ShT) (I : DI) (J : DJ) (k t : Nat) : List Value := (List.range (kF t)).map (fun j => fV C S I J k j (kY t j))
def fA (C : CT) (S : ShT) (I : DI) (J : DJ) (k t n : Nat) : vp_A := (n, if t = 34 then .inr (.inl (J k)) else if t < 34 then .inl (I k) else .inr (.inr (.inr (.inr (fun j => (S.2.2 k j).map (fun r => c0 C + r))))))
def cel (C : CT) (S : ShT) (I : DI) (J : DJ) (k : Nat) : va_E := if (S.2.1 k).1 < 32 then .inr ((S.2.1 k).1, fL C S I J k (S.2.1 k).1) else .inl (cA C (S.2.1 k).1, fA C S I J k (S.2.1 k).1 (S.2.1 k).2)
def MR (C : CT) (S : ShT) (I : DI) (J : DJ) (H : Heap) : Prop := H.size = c0 C + S.1 ∧ ∀ k, k < S.1 → va_at (cD C) vwCl (c0 C + k, cel C S I J k) H
def tgT : Nat → FieldType := fun t => match t with
  | 32 => .int
  | 33 => .boolean
  | 34 => .long
  | 35 => .object "FileIndexer$Entry"
  | 36 => .object "FileIndexer$Term"
  | _ => .array .int
/-- a value of the memory as the machine has it; the script is '.retAddr 0' -/
def cv (C : CT) : Value → Value := fun v => match v with
  | .ref k => .ref (c0 C + k)
  | .retAddr _ => .ref (cB C)
  | v => v
theorem cv_cat (C : CT) (v : Value) : (cv C v).category = v.category := by cases v <;> rfl
def GG (C : CT) (U : State) : Prop := (cS C).WarmedH U.vm ∧ ∀ q, q < c0 C → U.heap[q]? = (cS C).heap[q]?
def OKC (C : CT) (l : Launch) : Prop := l.flags = flags0 ∧ (∀ w ∈ lw_tbl, w.before (cG C) (cS C) = true) ∧ va_K (cD C) vwCl [] (cS C) ∧ (∀ t, 32 ≤ t → ArrOfT (cS C) (cA C t) (tgT t) ∧ va_RA (cS C) (cA C t) (tgT t)) ∧ va_X (cB C) (cN C) (cX C) (cS C) (cS C).heap ∧ cB C < c0 C ∧
  (Cond.isRef (.static "java/lang/Throwable" "UNASSIGNED_STACK" "[Ljava/lang/StackTraceElement;")).before (cG C) (cS C) = true ∧ (Cond.isRef (.static "java/lang/Throwable" "SUPPRESSED_SENTINEL" "Ljava/util/List;")).before (cG C) (cS C) = true ∧
  ∀ i j : Nat, (i = 9 ∨ i = 10 ∨ i = 11) → (j = 9 ∨ j = 10 ∨ j = 11) → i ≠ j → (Cond.not (.castable (kN i) (kN j))).before (cG C) (cS C) = true
theorem Wd.at {w : Cond} (h : Wd w) {C : CT} {l : Launch} (hC : OKC C l) {U : State} (hW : (cS C).WarmedH U.vm) (a : Array Value) : w.before a U = true := word_at hW (good_of_word h.2) (hC.2.1 w h.1)
abbrev RsT : Type := Option Value ⊕ Nat
abbrev PoT : Type := RsT → ShT → DI → DJ → Prop
def oOf (C : CT) (r : RsT) (S : ShT) (o : Outcome) : Prop := match r with
  | .inl v => o = .returned (v.map (cv C))
  | .inr ci => ∃ k, S.1 = k + 1 ∧ (S.2.1 k).1 = ci ∧ o = .threw (c0 C + k)
def QX (C : CT) (Po : PoT) (o : Outcome) (t : State) : Prop := ∃ (r : RsT) (S : ShT) (I : DI) (J : DJ), Po r S I J ∧ MR C S I J t.heap ∧ GG C t ∧ oOf C r S o
abbrev RT : Type := Nat × Nat × Nat
def RM (R : RT) : Room := { frames := R.1, cells := R.2.1, slots := R.2.2, locals := 36 * R.1 }
def EX (C : CT) (R : RT) (s t : State) : Prop := ∃ L : List Loc, s.WarmedH t.vm ∧ s.sameButNew ({ t with vm := s.vm } : State) L R.2.1 R.2.2 ∧ ∀ q ∈ L, c0 C ≤ q.base
def ZX (C : CT) (R : RT) (Po : PoT) (below : List Frame) (s : State) : State → Prop := fun t => ∃ o, t.status = .running ∧ Ended t below o ∧ QX C Po o t ∧ EX C R s t
abbrev AX (C : CT) : Nat → Prop := fun q => c0 C ≤ q
def Iv (C : CT) (l : Launch) (K : KT) (p : Program) (s : State) (m : MethodId) (meth : Method) (c : Code) : Prop :=
  OKC C l ∧ p.tables.exec = Jvm.exec ∧ c.code = K.1 ∧ meth.sig.returnType = K.2.2.2.2.2 ∧ c.maxLocals = K.2.2.2.2.1 ∧ s.vm.findClass K.2.1 = some m.cls ∧ meth.locks = false ∧ c.exceptionTable.toList.map (fun x => (x.startPc, x.endPc, x.handlerPc, x.catchType)) = K.2.2.2.1 ∧ GG C s ∧ (∃ S I J, MR C S I J s.heap) ∧ meth.name = K.2.2.1
abbrev LT : Type := List (Nat × Value)
def lC (C : CT) (L : LT) : LT := L.map (fun q => (q.1, cv C q.2))
/-- THE JUDGEMENT: inside a method of the card K, at pc, with these locals, this stack and this memory, u cells and slots made so far: the method comes to an end with Po -/
def V (C : CT) (l : Launch) (K : KT) (R : RT) (Po : PoT) (pc : Nat) (L : LT) (st : List Value) (S : ShT) (I : DI) (J : DJ) (u : Nat × Nat) : Prop :=
  ∀ (p : Program) (e : Env) (s : State) (m : MethodId) (args : Array Value) (below : List Frame) (meth : Method) (c : Code), Iv C l K p s m meth c →
    ∀ (H : Heap) (ls : Array Slot) (locs : List Loc), MR C S I J H → lv_has ls K.2.2.2.2.1 (lC C L) → va_S (AX C) s.heap H locs → u.1 ≤ R.2.1 → u.2 ≤ R.2.2 →
    W p l e (RM R) s m args below meth c H locs u.1 u.2 (ZX C R Po below s) (F0 m pc ls (st.map (cv C)))
theorem lC_at {C : CT} {L : LT} {n i : Nat} {v : Value} {ls : Array Slot} {nL : Nat} (h : lv_has ls nL (lC C L)) (hl : L[n]? = some (i, v)) : ls[i]? = some (.val (cv C v)) := lv_at h n (by unfold lC; rw [List.getElem?_map, hl]; rfl)
theorem lC_f1 {C : CT} {L : LT} {i : Nat} : (lC C L).filter (fun q => !(q.1 == i) && !(q.1 + 1 == i && q.2.category == 2)) = lC C (L.filter (fun q => !(q.1 == i) && !(q.1 + 1 == i && q.2.category == 2))) := by
  unfold lC
  rw [List.filter_map]
  congr 2
  funext q
  simp [cv_cat]
theorem lC_f2 {C : CT} {L : LT} {i : Nat} : (lC C L).filter (fun q => !(q.1 == i) && (!(q.1 == i + 1) && !(q.1 + 1 == i && q.2.category == 2))) = lC C (L.filter (fun q => !(q.1 == i) && (!(q.1 == i + 1) && !(q.1 + 1 == i && q.2.category == 2)))) := by
  unfold lC
  rw [List.filter_map]
  congr 2
  funext q
  simp [cv_cat]
/-- the locals behind a store of one slot, of two slots -/
def s1 (L : LT) (i : Nat) (v : Value) : LT := (i, v) :: L.filter (fun q => !(q.1 == i) && !(q.1 + 1 == i && q.2.category == 2))
def s2 (L : LT) (i : Nat) (v : Value) : LT := (i, v) :: L.filter (fun q => !(q.1 == i) && (!(q.1 == i + 1) && !(q.1 + 1 == i && q.2.category == 2)))
section Rows
variable {C : CT} {l : Launch} {K : KT} {R : RT} {Po : PoT} {pc pc' : Nat} {L L' : LT} {st : List Value} {S : ShT} {I : DI} {J : DJ} {u : Nat × Nat}
theorem v_sub (ks : List Nat) (hl : lv_pick L ks = L') (k : V C l K R Po pc L' st S I J u) : V C l K R Po pc L st S I J u := by
  intro p e s m args below meth c hI H ls locs hM hL hS h1 h2
  refine k p e s m args below meth c hI H ls locs hM (lv_sub hL ks ?_) hS h1 h2
  rw [← hl]
  unfold lC lv_pick
  rw [List.map_filterMap]
  congr 1
  funext i
  rw [List.getElem?_map]
theorem v_nmi {x : Int32} (k : ∀ y : Int32, y = x → V C l K R Po pc L (.int y :: st) S I J u) : V C l K R Po pc L (.int x :: st) S I J u := k x rfl
theorem v_nml {x : Int64} (k : ∀ y : Int64, y = x → V C l K R Po pc L (.long y :: st) S I J u) : V C l K R Po pc L (.long x :: st) S I J u := k x rfl
theorem v_iconst {n : Int} {v : Int32} (hd : decode K.1 pc = .ok (.iconst n, 1)) (hv : Int32.ofInt n = v) (hp : pc + 1 = pc') (k : V C l K R Po pc' L (.int v :: st) S I J u) : V C l K R Po pc L st S I J u := by
  intro p e s m args below meth c hI H ls locs hM hL hS h1 h2
  subst hp
  exact lv_iconst hI.2.1 hI.2.2.1 hd hv (k p e s m args below meth c hI H ls locs hM hL hS h1 h2)
theorem v_bipush {n : Int} {v : Int32} (hd : decode K.1 pc = .ok (.bipush n, 2)) (hv : (Int8.ofInt n).toInt32 = v) (hp : pc + 2 = pc') (k : V C l K R Po pc' L (.int v :: st) S I J u) : V C l K R Po pc L st S I J u := by
  intro p e s m args below meth c hI H ls locs hM hL hS h1 h2
  subst hp
  exact lv_bipush hI.2.1 hI.2.2.1 hd hv (k p e s m args below meth c hI H ls locs hM hL hS h1 h2)
theorem v_sipush {n : Int} {v : Int32} (hd : decode K.1 pc = .ok (.sipush n, 3)) (hv : (Int16.ofInt n).toInt32 = v) (hp : pc + 3 = pc') (k : V C l K R Po pc' L (.int v :: st) S I J u) : V C l K R Po pc L st S I J u := by
  intro p e s m args below meth c hI H ls locs hM hL hS h1 h2
  subst hp
  exact lv_sipush hI.2.1 hI.2.2.1 hd hv (k p e s m args below meth c hI H ls locs hM hL hS h1 h2)
theorem v_lconst {n : Fin 2} {v : Int64} (hd : decode K.1 pc = .ok (.lconst n, 1)) (hv : Int64.ofNat (n : Nat) = v) (hp : pc + 1 = pc') (k : V C l K R Po pc' L (.long v :: st) S I J u) : V C l K R Po pc L st S I J u := by
  intro p e s m args below meth c hI H ls locs hM hL hS h1 h2
  subst hp
  exact lv_lconst hI.2.1 hI.2.2.1 hd hv (k p e s m args below meth c hI H ls locs hM hL hS h1 h2)
theorem v_iload_n {k4 : Fin 4} {i : Nat} {x : Int32} (n : Nat) (hd : decode K.1 pc = .ok (.iload_n k4, 1)) (hi : (k4 : Nat) = i) (hl : L[n]? = some (i, .int x)) (hp : pc + 1 = pc') (k : V C l K R Po pc' L (.int x :: st) S I J u) : V C l K R Po pc L st S I J u := by
  intro p e s m args below meth c hI H ls locs hM hL hS h1 h2
  subst hp
  exact lv_iload_n hI.2.1 hI.2.2.1 hd hi (lC_at hL hl) (k p e s m args below meth c hI H ls locs hM hL hS h1 h2)
theorem v_iload {i : Nat} {x : Int32} (n : Nat) (hd : decode K.1 pc = .ok (.iload i, 2)) (hl : L[n]? = some (i, .int x)) (hp : pc + 2 = pc') (k : V C l K R Po pc' L (.int x :: st) S I J u) : V C l K R Po pc L st S I J u := by
  intro p e s m args below meth c hI H ls locs hM hL hS h1 h2
  subst hp
  exact lv_iload hI.2.1 hI.2.2.1 hd (lC_at hL hl) (k p e s m args below meth c hI H ls locs hM hL hS h1 h2)
theorem v_lload_n {k4 : Fin 4} {i : Nat} {x : Int64} (n : Nat) (hd : decode K.1 pc = .ok (.lload_n k4, 1)) (hi : (k4 : Nat) = i) (hl : L[n]? = some (i, .long x)) (hp : pc + 1 = pc') (k : V C l K R Po pc' L (.long x :: st) S I J u) : V C l K R Po pc L st S I J u := by
  intro p e s m args below meth c hI H ls locs hM hL hS h1 h2
  subst hp
  exact lv_lload_n hI.2.1 hI.2.2.1 hd hi (lC_at hL hl) (k p e s m args below meth c hI H ls locs hM hL hS h1 h2)
theorem v_lload {i : Nat} {x : Int64} (n : Nat) (hd : decode K.1 pc = .ok (.lload i, 2)) (hl : L[n]? = some (i, .long x)) (hp : pc + 2 = pc') (k : V C l K R Po pc' L (.long x :: st) S I J u) : V C l K R Po pc L st S I J u := by
  intro p e s m args below meth c hI H ls locs hM hL hS h1 h2
  subst hp
  exact lv_lload hI.2.1 hI.2.2.1 hd (lC_at hL hl) (k p e s m args below meth c hI H ls locs hM hL hS h1 h2)
theorem v_aload_n {k4 : Fin 4} {i : Nat} {x : Nat} (n : Nat) (hd : decode K.1 pc = .ok (.aload_n k4, 1)) (hi : (k4 : Nat) = i) (hl : L[n]? = some (i, .ref x)) (hp : pc + 1 = pc') (k : V C l K R Po pc' L (.ref x :: st) S I J u) : V C l K R Po pc L st S I J u := by
  intro p e s m args below meth c hI H ls locs hM hL hS h1 h2
  subst hp
  exact lv_aload_n hI.2.1 hI.2.2.1 hd hi (lC_at hL hl) (k p e s m args below meth c hI H ls locs hM hL hS h1 h2)
theorem v_aload {i : Nat} {x : Nat} (n : Nat) (hd : decode K.1 pc = .ok (.aload i, 2)) (hl : L[n]? = some (i, .ref x)) (hp : pc + 2 = pc') (k : V C l K R Po pc' L (.ref x :: st) S I J u) : V C l K R Po pc L st S I J u := by
  intro p e s m args below meth c hI H ls locs hM hL hS h1 h2
  subst hp
  exact lv_aload hI.2.1 hI.2.2.1 hd (lC_at hL hl) (k p e s m args below meth c hI H ls locs hM hL hS h1 h2)
theorem v_sload_n {k4 : Fin 4} {i : Nat} {x : Nat} (n : Nat) (hd : decode K.1 pc = .ok (.aload_n k4, 1)) (hi : (k4 : Nat) = i) (hl : L[n]? = some (i, .retAddr x)) (hp : pc + 1 = pc') (k : V C l K R Po pc' L (.retAddr x :: st) S I J u) : V C l K R Po pc L st S I J u := by
  intro p e s m args below meth c hI H ls locs hM hL hS h1 h2
  subst hp
  exact lv_aload_n hI.2.1 hI.2.2.1 hd hi (lC_at hL hl) (k p e s m args below meth c hI H ls locs hM hL hS h1 h2)
theorem v_istore_n {k4 : Fin 4} {i : Nat} {x : Int32} (hd : decode K.1 pc = .ok (.istore_n k4, 1)) (hi : (k4 : Nat) = i) (hn : i < K.2.2.2.2.1) (hl : s1 L i (.int x) = L') (hp : pc + 1 = pc') (k : V C l K R Po pc' L' st S I J u) : V C l K R Po pc L ((.int x) :: st) S I J u := by
  intro p e s m args below meth c hI H ls locs hM hL hS h1 h2
  subst hp
  exact lv_istore_n hI.2.1 hI.2.2.1 hd hi hL hn (show _ = lC C L' by rw [← hl, lC_f1]; rfl) (fun ls hL => k p e s m args below meth c hI H ls locs hM hL hS h1 h2)
theorem v_istore {i : Nat} {x : Int32} (hd : decode K.1 pc = .ok (.istore i, 2)) (hn : i < K.2.2.2.2.1) (hl : s1 L i (.int x) = L') (hp : pc + 2 = pc') (k : V C l K R Po pc' L' st S I J u) : V C l K R Po pc L ((.int x) :: st) S I J u := by
  intro p e s m args below meth c hI H ls locs hM hL hS h1 h2
  subst hp
  exact lv_istore hI.2.1 hI.2.2.1 hd hL hn (show _ = lC C L' by rw [← hl, lC_f1]; rfl) (fun ls hL => k p e s m args below meth c hI H ls locs hM hL hS h1 h2)
theorem v_astore_n {k4 : Fin 4} {i : Nat} {x : Nat} (hd : decode K.1 pc = .ok (.astore_n k4, 1)) (hi : (k4 : Nat) = i) (hn : i < K.2.2.2.2.1) (hl : s1 L i (.ref x) = L') (hp : pc + 1 = pc') (k : V C l K R Po pc' L' st S I J u) : V C l K R Po pc L ((.ref x) :: st) S I J u := by
  intro p e s m args below meth c hI H ls locs hM hL hS h1 h2
  subst hp
  exact lv_astore_n hI.2.1 hI.2.2.1 hd hi hL hn (show _ = lC C L' by rw [← hl, lC_f1]; rfl) (fun ls hL => k p e s m args below meth c hI H ls locs hM hL hS h1 h2)
theorem v_astore {i : Nat} {x : Nat} (hd : decode K.1 pc = .ok (.astore i, 2)) (hn : i < K.2.2.2.2.1) (hl : s1 L i (.ref x) = L') (hp : pc + 2 = pc') (k : V C l K R Po pc' L' st S I J u) : V C l K R Po pc L ((.ref x) :: st) S I J u := by
  intro p e s m args below meth c hI H ls locs hM hL hS h1 h2
  subst hp
  exact lv_astore hI.2.1 hI.2.2.1 hd hL hn (show _ = lC C L' by rw [← hl, lC_f1]; rfl) (fun ls hL => k p e s m args below meth c hI H ls locs hM hL hS h1 h2)
theorem v_lstore_n {k4 : Fin 4} {i : Nat} {x : Int64} (hd : decode K.1 pc = .ok (.lstore_n k4, 1)) (hi : (k4 : Nat) = i) (hn : i + 1 < K.2.2.2.2.1) (hl : s2 L i (.long x) = L') (hp : pc + 1 = pc') (k : V C l K R Po pc' L' st S I J u) : V C l K R Po pc L ((.long x) :: st) S I J u := by
  intro p e s m args below meth c hI H ls locs hM hL hS h1 h2
  subst hp
  exact lv_lstore_n hI.2.1 hI.2.2.1 hd hi hL hn (show _ = lC C L' by rw [← hl, lC_f2]; rfl) (fun ls hL => k p e s m args below meth c hI H ls locs hM hL hS h1 h2)
theorem v_lstore {i : Nat} {x : Int64} (hd : decode K.1 pc = .ok (.lstore i, 2)) (hn : i + 1 < K.2.2.2.2.1) (hl : s2 L i (.long x) = L') (hp : pc + 2 = pc') (k : V C l K R Po pc' L' st S I J u) : V C l K R Po pc L ((.long x) :: st) S I J u := by
  intro p e s m args below meth c hI H ls locs hM hL hS h1 h2
  subst hp
  exact lv_lstore hI.2.1 hI.2.2.1 hd hL hn (show _ = lC C L' by rw [← hl, lC_f2]; rfl) (fun ls hL => k p e s m args below meth c hI H ls locs hM hL hS h1 h2)
theorem v_iinc {i n : Nat} {z : Int} {x v : Int32} (hd : decode K.1 pc = .ok (.iinc i z, 3)) (hk : L[n]? = some (i, .int x)) (hv : x + Int32.ofInt z = v) (hn : i < K.2.2.2.2.1) (hl : s1 L i (.int v) = L') (hp : pc + 3 = pc') (k : V C l K R Po pc' L' st S I J u) : V C l K R Po pc L st S I J u := by
  intro p e s m args below meth c hI H ls locs hM hL hS h1 h2
  subst hp
  exact lv_iinc hI.2.1 hI.2.2.1 hd hL (k := n) (by unfold lC; rw [List.getElem?_map, hk]; rfl) hv hn (show _ = lC C L' by rw [← hl, lC_f1]; rfl) (fun ls hL => k p e s m args below meth c hI H ls locs hM hL hS h1 h2)
theorem v_iadd {x y : Int32} (hd : decode K.1 pc = .ok (.iadd, 1))  (hp : pc + 1 = pc') (k : V C l K R Po pc' L (.int (x + y) :: st) S I J u) : V C l K R Po pc L (.int y :: .int x :: st) S I J u := by
  intro p e s m args below meth c hI H ls locs hM hL hS h1 h2
  subst hp
  exact lv_iadd hI.2.1 hI.2.2.1 hd (k p e s m args below meth c hI H ls locs hM hL hS h1 h2)
theorem v_isub {x y : Int32} (hd : decode K.1 pc = .ok (.isub, 1))  (hp : pc + 1 = pc') (k : V C l K R Po pc' L (.int (x - y) :: st) S I J u) : V C l K R Po pc L (.int y :: .int x :: st) S I J u := by
  intro p e s m args below meth c hI H ls locs hM hL hS h1 h2
  subst hp
  exact lv_isub hI.2.1 hI.2.2.1 hd (k p e s m args below meth c hI H ls locs hM hL hS h1 h2)
theorem v_imul {x y : Int32} (hd : decode K.1 pc = .ok (.imul, 1))  (hp : pc + 1 = pc') (k : V C l K R Po pc' L (.int (x * y) :: st) S I J u) : V C l K R Po pc L (.int y :: .int x :: st) S I J u := by
  intro p e s m args below meth c hI H ls locs hM hL hS h1 h2
  subst hp
  exact lv_imul hI.2.1 hI.2.2.1 hd (k p e s m args below meth c hI H ls locs hM hL hS h1 h2)
theorem v_iand {x y : Int32} (hd : decode K.1 pc = .ok (.iand, 1))  (hp : pc + 1 = pc') (k : V C l K R Po pc' L (.int (x &&& y) :: st) S I J u) : V C l K R Po pc L (.int y :: .int x :: st) S I J u := by
  intro p e s m args below meth c hI H ls locs hM hL hS h1 h2
  subst hp
  exact lv_iand hI.2.1 hI.2.2.1 hd (k p e s m args below meth c hI H ls locs hM hL hS h1 h2)
theorem v_ior {x y : Int32} (hd : decode K.1 pc = .ok (.ior, 1))  (hp : pc + 1 = pc') (k : V C l K R Po pc' L (.int (x ||| y) :: st) S I J u) : V C l K R Po pc L (.int y :: .int x :: st) S I J u := by
  intro p e s m args below meth c hI H ls locs hM hL hS h1 h2
  subst hp
  exact lv_ior hI.2.1 hI.2.2.1 hd (k p e s m args below meth c hI H ls locs hM hL hS h1 h2)
theorem v_land {x y : Int64} (hd : decode K.1 pc = .ok (.land, 1))  (hp : pc + 1 = pc') (k : V C l K R Po pc' L (.long (x &&& y) :: st) S I J u) : V C l K R Po pc L (.long y :: .long x :: st) S I J u := by
  intro p e s m args below meth c hI H ls locs hM hL hS h1 h2
  subst hp
  exact lv_land hI.2.1 hI.2.2.1 hd (k p e s m args below meth c hI H ls locs hM hL hS h1 h2)
theorem v_lor {x y : Int64} (hd : decode K.1 pc = .ok (.lor, 1))  (hp : pc + 1 = pc') (k : V C l K R Po pc' L (.long (x ||| y) :: st) S I J u) : V C l K R Po pc L (.long y :: .long x :: st) S I J u := by
  intro p e s m args below meth c hI H ls locs hM hL hS h1 h2
  subst hp
  exact lv_lor hI.2.1 hI.2.2.1 hd (k p e s m args below meth c hI H ls locs hM hL hS h1 h2)
theorem v_i2l {x : Int32} {v : Int64} (hd : decode K.1 pc = .ok (.i2l, 1)) (hv : x.toInt64 = v) (hp : pc + 1 = pc') (k : V C l K R Po pc' L (.long v :: st) S I J u) : V C l K R Po pc L (.int x :: st) S I J u := by
  intro p e s m args below meth c hI H ls locs hM hL hS h1 h2
  subst hp
  exact lv_i2l hI.2.1 hI.2.2.1 hd hv (k p e s m args below meth c hI H ls locs hM hL hS h1 h2)
theorem v_l2i {x : Int64} {v : Int32} (hd : decode K.1 pc = .ok (.l2i, 1)) (hv : x.toInt32 = v) (hp : pc + 1 = pc') (k : V C l K R Po pc' L (.int v :: st) S I J u) : V C l K R Po pc L (.long x :: st) S I J u := by
  intro p e s m args below meth c hI H ls locs hM hL hS h1 h2
  subst hp
  exact lv_l2i hI.2.1 hI.2.2.1 hd hv (k p e s m args below meth c hI H ls locs hM hL hS h1 h2)
theorem v_lushr {x v : Int64} {y : Int32} (hd : decode K.1 pc = .ok (.lushr, 1)) (hv : (x.toUInt64 >>> (y.toInt64.toUInt64 &&& Int64.toUInt64 63)).toInt64 = v) (hp : pc + 1 = pc') (k : V C l K R Po pc' L (.long v :: st) S I J u) : V C l K R Po pc L (.int y :: .long x :: st) S I J u := by
  intro p e s m args below meth c hI H ls locs hM hL hS h1 h2
  subst hp
  exact lv_lushr hI.2.1 hI.2.2.1 hd hv (k p e s m args below meth c hI H ls locs hM hL hS h1 h2)
theorem v_lshl {x v : Int64} {y : Int32} (hd : decode K.1 pc = .ok (.lshl, 1)) (hv : x <<< (y.toInt64 &&& 63) = v) (hp : pc + 1 = pc') (k : V C l K R Po pc' L (.long v :: st) S I J u) : V C l K R Po pc L (.int y :: .long x :: st) S I J u := by
  intro p e s m args below meth c hI H ls locs hM hL hS h1 h2
  subst hp
  exact lv_lshl hI.2.1 hI.2.2.1 hd hv (k p e s m args below meth c hI H ls locs hM hL hS h1 h2)
theorem v_lshr {x v : Int64} {y : Int32} (hd : decode K.1 pc = .ok (.lshr, 1)) (hv : x >>> (y.toInt64 &&& 63) = v) (hp : pc + 1 = pc') (k : V C l K R Po pc' L (.long v :: st) S I J u) : V C l K R Po pc L (.int y :: .long x :: st) S I J u := by
  intro p e s m args below meth c hI H ls locs hM hL hS h1 h2
  subst hp
  exact lv_lshr hI.2.1 hI.2.2.1 hd hv (k p e s m args below meth c hI H ls locs hM hL hS h1 h2)
theorem v_dup {va : Value} (hd : decode K.1 pc = .ok (.dup, 1)) (hva : va.category = 1) (hp : pc + 1 = pc') (k : V C l K R Po pc' L (va :: va :: st) S I J u) : V C l K R Po pc L (va :: st) S I J u := by
  intro p e s m args below meth c hI H ls locs hM hL hS h1 h2
  subst hp
  exact lv_dup hI.2.1 hI.2.2.1 hd ((cv_cat C va).trans hva) (k p e s m args below meth c hI H ls locs hM hL hS h1 h2)
theorem v_dup2 {va vb : Value} (hd : decode K.1 pc = .ok (.dup2, 1)) (hva : va.category = 1) (hvb : vb.category = 1) (hp : pc + 1 = pc') (k : V C l K R Po pc' L (va :: vb :: va :: vb :: st) S I J u) : V C l K R Po pc L (va :: vb :: st) S I J u := by
  intro p e s m args below meth c hI H ls locs hM hL hS h1 h2
  subst hp
  exact lv_dup2_11 hI.2.1 hI.2.2.1 hd ((cv_cat C va).trans hva) ((cv_cat C vb).trans hvb) (k p e s m args below meth c hI H ls locs hM hL hS h1 h2)
theorem v_pop {va : Value} (hd : decode K.1 pc = .ok (.pop, 1)) (hva : va.category = 1) (hp : pc + 1 = pc') (k : V C l K R Po pc' L st S I J u) : V C l K R Po pc L (va :: st) S I J u := by
  intro p e s m args below meth c hI H ls locs hM hL hS h1 h2
  subst hp
  exact lv_pop hI.2.1 hI.2.2.1 hd ((cv_cat C va).trans hva) (k p e s m args below meth c hI H ls locs hM hL hS h1 h2)
theorem v_if_eq {x : Int32} {off : Int} {tgt : Nat} (hd : decode K.1 pc = .ok (.ifCond .eq off, 3)) (ht : (pc : Int) + off = (tgt : Int)) (hp : pc + 3 = pc') (kt : x = 0 → V C l K R Po tgt L st S I J u) (kf : ¬ x = 0 → V C l K R Po pc' L st S I J u) : V C l K R Po pc L (.int x :: st) S I J u := by
  intro p e s m args below meth c hI H ls locs hM hL hS h1 h2
  subst hp
  exact lv_if_eq hI.2.1 hI.2.2.1 hd ht (fun q => kt q p e s m args below meth c hI H ls locs hM hL hS h1 h2) (fun q => kf q p e s m args below meth c hI H ls locs hM hL hS h1 h2)
theorem v_icmp_eq {x y : Int32} {off : Int} {tgt : Nat} (hd : decode K.1 pc = .ok (.if_icmp .eq off, 3)) (ht : (pc : Int) + off = (tgt : Int)) (hp : pc + 3 = pc') (kt : x = y → V C l K R Po tgt L st S I J u) (kf : ¬ x = y → V C l K R Po pc' L st S I J u) : V C l K R Po pc L (.int y :: .int x :: st) S I J u := by
  intro p e s m args below meth c hI H ls locs hM hL hS h1 h2
  subst hp
  exact lv_icmp_eq hI.2.1 hI.2.2.1 hd ht (fun q => kt q p e s m args below meth c hI H ls locs hM hL hS h1 h2) (fun q => kf q p e s m args below meth c hI H ls locs hM hL hS h1 h2)
theorem v_if_ne {x : Int32} {off : Int} {tgt : Nat} (hd : decode K.1 pc = .ok (.ifCond .ne off, 3)) (ht : (pc : Int) + off = (tgt : Int)) (hp : pc + 3 = pc') (kt : ¬ x = 0 → V C l K R Po tgt L st S I J u) (kf : x = 0 → V C l K R Po pc' L st S I J u) : V C l K R Po pc L (.int x :: st) S I J u := by
  intro p e s m args below meth c hI H ls locs hM hL hS h1 h2
  subst hp
  exact lv_if_ne hI.2.1 hI.2.2.1 hd ht (fun q => kt q p e s m args below meth c hI H ls locs hM hL hS h1 h2) (fun q => kf q p e s m args below meth c hI H ls locs hM hL hS h1 h2)
theorem v_icmp_ne {x y : Int32} {off : Int} {tgt : Nat} (hd : decode K.1 pc = .ok (.if_icmp .ne off, 3)) (ht : (pc : Int) + off = (tgt : Int)) (hp : pc + 3 = pc') (kt : ¬ x = y → V C l K R Po tgt L st S I J u) (kf : x = y → V C l K R Po pc' L st S I J u) : V C l K R Po pc L (.int y :: .int x :: st) S I J u := by
  intro p e s m args below meth c hI H ls locs hM hL hS h1 h2
  subst hp
  exact lv_icmp_ne hI.2.1 hI.2.2.1 hd ht (fun q => kt q p e s m args below meth c hI H ls locs hM hL hS h1 h2) (fun q => kf q p e s m args below meth c hI H ls locs hM hL hS h1 h2)
theorem v_if_lt {x : Int32} {off : Int} {tgt : Nat} (hd : decode K.1 pc = .ok (.ifCond .lt off, 3)) (ht : (pc : Int) + off = (tgt : Int)) (hp : pc + 3 = pc') (kt : x < 0 → V C l K R Po tgt L st S I J u) (kf : ¬ x < 0 → V C l K R Po pc' L st S I J u) : V C l K R Po pc L (.int x :: st) S I J u := by
  intro p e s m args below meth c hI H ls locs hM hL hS h1 h2
  subst hp
  exact lv_if_lt hI.2.1 hI.2.2.1 hd ht (fun q => kt q p e s m args below meth c hI H ls locs hM hL hS h1 h2) (fun q => kf q p e s m args below meth c hI H ls locs hM hL hS h1 h2)
theorem v_icmp_lt {x y : Int32} {off : Int} {tgt : Nat} (hd : decode K.1 pc = .ok (.if_icmp .lt off, 3)) (ht : (pc : Int) + off = (tgt : Int)) (hp : pc + 3 = pc') (kt : x < y → V C l K R Po tgt L st S I J u) (kf : ¬ x < y → V C l K R Po pc' L st S I J u) : V C l K R Po pc L (.int y :: .int x :: st) S I J u := by
  intro p e s m args below meth c hI H ls locs hM hL hS h1 h2
  subst hp
  exact lv_icmp_lt hI.2.1 hI.2.2.1 hd ht (fun q => kt q p e s m args below meth c hI H ls locs hM hL hS h1 h2) (fun q => kf q p e s m args below meth c hI H ls locs hM hL hS h1 h2)
theorem v_if_ge {x : Int32} {off : Int} {tgt : Nat} (hd : decode K.1 pc = .ok (.ifCond .ge off, 3)) (ht : (pc : Int) + off = (tgt : Int)) (hp : pc + 3 = pc') (kt : 0 ≤ x → V C l K R Po tgt L st S I J u) (kf : ¬ 0 ≤ x → V C l K R Po pc' L st S I J u) : V C l K R Po pc L (.int x :: st) S I J u := by
  intro p e s m args below meth c hI H ls locs hM hL hS h1 h2
  subst hp
  exact lv_if_ge hI.2.1 hI.2.2.1 hd ht (fun q => kt q p e s m args below meth c hI H ls locs hM hL hS h1 h2) (fun q => kf q p e s m args below meth c hI H ls locs hM hL hS h1 h2)
theorem v_icmp_ge {x y : Int32} {off : Int} {tgt : Nat} (hd : decode K.1 pc = .ok (.if_icmp .ge off, 3)) (ht : (pc : Int) + off = (tgt : Int)) (hp : pc + 3 = pc') (kt : y ≤ x → V C l K R Po tgt L st S I J u) (kf : ¬ y ≤ x → V C l K R Po pc' L st S I J u) : V C l K R Po pc L (.int y :: .int x :: st) S I J u := by
  intro p e s m args below meth c hI H ls locs hM hL hS h1 h2
  subst hp
  exact lv_icmp_ge hI.2.1 hI.2.2.1 hd ht (fun q => kt q p e s m args below meth c hI H ls locs hM hL hS h1 h2) (fun q => kf q p e s m args below meth c hI H ls locs hM hL hS h1 h2)
theorem v_if_gt {x : Int32} {off : Int} {tgt : Nat} (hd : decode K.1 pc = .ok (.ifCond .gt off, 3)) (ht : (pc : Int) + off = (tgt : Int)) (hp : pc + 3 = pc') (kt : 0 < x → V C l K R Po tgt L st S I J u) (kf : ¬ 0 < x → V C l K R Po pc' L st S I J u) : V C l K R Po pc L (.int x :: st) S I J u := by
  intro p e s m args below meth c hI H ls locs hM hL hS h1 h2
  subst hp
  exact lv_if_gt hI.2.1 hI.2.2.1 hd ht (fun q => kt q p e s m args below meth c hI H ls locs hM hL hS h1 h2) (fun q => kf q p e s m args below meth c hI H ls locs hM hL hS h1 h2)
theorem v_icmp_gt {x y : Int32} {off : Int} {tgt : Nat} (hd : decode K.1 pc = .ok (.if_icmp .gt off, 3)) (ht : (pc : Int) + off = (tgt : Int)) (hp : pc + 3 = pc') (kt : y < x → V C l K R Po tgt L st S I J u) (kf : ¬ y < x → V C l K R Po pc' L st S I J u) : V C l K R Po pc L (.int y :: .int x :: st) S I J u := by
  intro p e s m args below meth c hI H ls locs hM hL hS h1 h2
  subst hp
  exact lv_icmp_gt hI.2.1 hI.2.2.1 hd ht (fun q => kt q p e s m args below meth c hI H ls locs hM hL hS h1 h2) (fun q => kf q p e s m args below meth c hI H ls locs hM hL hS h1 h2)
theorem v_if_le {x : Int32} {off : Int} {tgt : Nat} (hd : decode K.1 pc = .ok (.ifCond .le off, 3)) (ht : (pc : Int) + off = (tgt : Int)) (hp : pc + 3 = pc') (kt : x ≤ 0 → V C l K R Po tgt L st S I J u) (kf : ¬ x ≤ 0 → V C l K R Po pc' L st S I J u) : V C l K R Po pc L (.int x :: st) S I J u := by
  intro p e s m args below meth c hI H ls locs hM hL hS h1 h2
  subst hp
  exact lv_if_le hI.2.1 hI.2.2.1 hd ht (fun q => kt q p e s m args below meth c hI H ls locs hM hL hS h1 h2) (fun q => kf q p e s m args below meth c hI H ls locs hM hL hS h1 h2)
theorem v_icmp_le {x y : Int32} {off : Int} {tgt : Nat} (hd : decode K.1 pc = .ok (.if_icmp .le off, 3)) (ht : (pc : Int) + off = (tgt : Int)) (hp : pc + 3 = pc') (kt : x ≤ y → V C l K R Po tgt L st S I J u) (kf : ¬ x ≤ y → V C l K R Po pc' L st S I J u) : V C l K R Po pc L (.int y :: .int x :: st) S I J u := by
  intro p e s m args below meth c hI H ls locs hM hL hS h1 h2
  subst hp
  exact lv_icmp_le hI.2.1 hI.2.2.1 hd ht (fun q => kt q p e s m args below meth c hI H ls locs hM hL hS h1 h2) (fun q => kf q p e s m args below meth c hI H ls locs hM hL hS h1 h2)
theorem v_goto {off : Int} {tgt : Nat} (hd : decode K.1 pc = .ok (.goto off, 3)) (ht : (pc : Int) + off = (tgt : Int)) (k : V C l K R Po tgt L st S I J u) : V C l K R Po pc L st S I J u := by
  intro p e s m args below meth c hI H ls locs hM hL hS h1 h2
  exact lv_goto hI.2.1 hI.2.2.1 hd ht (k p e s m args below meth c hI H ls locs hM hL hS h1 h2)
end Rows
end
section
/-! ===== ROWS OF THE MEMORY: fields and arrays ===== -/
def isO (S : ShT) (a ci : Nat) : Prop := a < S.1 ∧ (S.2.1 a).1 = ci
def isA (S : ShT) (a t n : Nat) : Prop := a < S.1 ∧ S.2.1 a = (t, n)
def FL (own : String) (idx ci k : Nat) : Prop := k < kF ci ∧ ci < 12 ∧ (kT ci k).1 = kN ci ∧ Wd (.fieldLink own idx (kN ci) (kT ci k).2.1 (kT ci k).2.2.1)
def u2 {α : Type} (f : Nat → Nat → α) (a k : Nat) (x : α) : Nat → Nat → α := fun b j => if b = a ∧ j = k then x else f b j
theorem u2_o {α : Type} {f : Nat → Nat → α} {a k : Nat} {x : α} {b : Nat} (h : b ≠ a) : u2 f a k x b = f b := by
  funext j
  simp [u2, h]
theorem u2_s {α : Type} {f : Nat → Nat → α} {a k : Nat} {x : α} : u2 f a k x a k = x := by simp [u2]
theorem u2_n {α : Type} {f : Nat → Nat → α} {a k : Nat} {x : α} {b j : Nat} (h : b ≠ a ∨ j ≠ k) : u2 f a k x b j = f b j := by
  unfold u2
  rw [if_neg (fun q => h.elim (fun g => g q.1) (fun g => g q.2))]
theorem ulay_good (C : String) (T : u_T) (k : Nat) : goodWord (u_lay C T k) = true := by
  unfold u_lay
  split <;> rfl
theorem cel_o {C : CT} {S : ShT} {I : DI} {J : DJ} {k ci : Nat} (h : (S.2.1 k).1 = ci) (hc : ci < 12) : cel C S I J k = .inr (ci, fL C S I J k ci) := by
  unfold cel
  rw [h, if_pos (by omega)]
theorem cel_a {C : CT} {S : ShT} {I : DI} {J : DJ} {k t n : Nat} (h : S.2.1 k = (t, n)) (hc : 32 ≤ t) : cel C S I J k = .inl (cA C t, fA C S I J k t n) := by
  unfold cel
  rw [h, if_neg (by omega)]
theorem cel_eq {C : CT} {S S' : ShT} {I I' : DI} {J J' : DJ} {k : Nat} (h1 : S'.2.1 k = S.2.1 k) (h2 : S'.2.2 k = S.2.2 k) (h3 : I' k = I k) (h4 : J' k = J k) : cel C S' I' J' k = cel C S I J k := by
  unfold cel fL fV fA
  rw [h1, h2, h3, h4]
theorem MR.one {C : CT} {S : ShT} {I : DI} {J : DJ} {H : Heap} (h : MR C S I J H) {a : Nat} (ha : a < S.1) {e : va_E} (he : cel C S I J a = e) : va_P (cD C) vwCl [(c0 C + a, e)] H := by
  intro k q hk
  cases k with
  | zero =>
    cases hk
    rw [← he]
    exact h.2 a ha
  | succ k => cases hk
/-- one cell changes -/
theorem MR.set {C : CT} {S S' : ShT} {I I' : DI} {J J' : DJ} {H H' : Heap} (h : MR C S I J H) {a : Nat} (hz : H'.size = H.size) (ho : ∀ q, q ≠ c0 C + a → H'[q]? = H[q]?) (hn : va_at (cD C) vwCl (c0 C + a, cel C S' I' J' a) H') (hs : S'.1 = S.1) (hk : ∀ k, k < S.1 → k ≠ a → cel C S' I' J' k = cel C S I J k) : MR C S' I' J' H' := by
  refine ⟨by rw [hz, h.1, hs], fun k hkn => ?_⟩
  rw [hs] at hkn
  by_cases e : k = a
  · subst e
    exact hn
  · rw [hk k hkn e]
    exact (h.2 k hkn).kept (ho _ (by show c0 C + k ≠ c0 C + a; omega))
theorem fL_get {C : CT} {S : ShT} {I : DI} {J : DJ} {a ci k : Nat} (hk : k < kF ci) : (fL C S I J a ci)[k]? = some (fV C S I J a k (kY ci k)) := by
  unfold fL
  rw [List.getElem?_map, List.getElem?_range hk]
  rfl
theorem fL_V {C : CT} {S : ShT} {I : DI} {J : DJ} {a ci k : Nat} (hk : k < kF ci) : vp_V (fL C S I J a ci) k = fV C S I J a k (kY ci k) := by
  unfold vp_V
  rw [List.getD_eq_getElem?_getD, fL_get hk]
  rfl
theorem GG.K {C : CT} {l : Launch} {U : State} (h : GG C U) (hC : OKC C l) : va_K (cD C) vwCl [] U := va_K.moved h.1.alike hC.2.2.1
theorem GG.arr {C : CT} {l : Launch} {U : State} (h : GG C U) (hC : OKC C l) {t : Nat} (ht : 32 ≤ t) : ArrOfT U (cA C t) (tgT t) ∧ va_RA U (cA C t) (tgT t) := ⟨arrOfT_moved h.1.alike (hC.2.2.2.1 t ht).1, (hC.2.2.2.1 t ht).2.moved h.1.alike⟩
theorem GG.lays {C : CT} {l : Launch} {U : State} (h : GG C U) (hC : OKC C l) (ci : Nat) (a : Array Value) : ∀ w ∈ u_ws (kN ci) (kT ci) (kF ci), w.before a U = true := by
  intro w hw
  have hg : goodWord w = true := by
    obtain ⟨k, -, rfl⟩ := List.mem_map.mp hw
    exact ulay_good _ _ _
  exact Wd.at ⟨ly_all ci w hw, hg⟩ hC h.1 a
section Put
variable {p : Program} {l : Launch} {e : Env} {R : Room} {s : State} {m : MethodId} {args : Array Value} {below : List Frame} {meth : Method} {c : Code} {H : Heap} {locs : List Loc} {cells slots : Nat} {Q : State → Prop} {D : va_G} {cl : List vw_C} {tys : List (ClassId × FieldType)} {a pc : Nat} {ls : Array Slot} {rest : List Value} {cc : ByteArray}
/-- putfield, with what stays -/
theorem put0 (hexec : p.tables.exec = Jvm.exec) (hb : c.code = cc) {own : String} {ci k index : Nat} (hts : ∀ w ∈ u_ws (kN ci) (kT ci) (kF ci), w.before args s = true) (hown : s.vm.findClass own = some m.cls) (hK : va_K D vwCl tys s) {fs : List Value} (hP : va_at D vwCl (a, .inr (ci, fs)) H) (hc : ci < 12) (hk : k < kF ci) (hself : (kT ci k).1 = kN ci)
    (hlink : (Cond.fieldLink own index (kN ci) (kT ci k).2.1 (kT ci k).2.2.1).before args s = true) (hfin : (kT ci k).2.2.2 = false ∨ ((kT ci k).2.2.2 = true ∧ meth.name = "<init>" ∧ kN ci = own)) {v : Value} (hn : narrow (kY ci k) v = v) (hfit : fits (kY ci k) v = true) (hl : k < fs.length)
    (hdg : decode cc pc = .ok (.putfield index, 3)) (kk : ∀ (H1 : Heap) (i : Nat), va_at D vwCl (a, .inr (ci, fs.set k v)) H1 → H1.size = H.size → (∀ q, q ≠ a → H1[q]? = H[q]?) → W p l e R s m args below meth c H1 (locs ++ [⟨a, i⟩]) cells slots Q (F0 m (pc + 3) ls rest)) : W p l e R s m args below meth c H locs cells slots Q (F0 m pc ls (v :: .ref a :: rest)) := by
  have hvw := vw_at hc
  have hap := va_apart (own := own) hts (fun w h => h) (kY ci) (ky_all ci) (kn_all ci) hK hvw
  obtain ⟨r, h1, cell, q1, q2, q3, q4⟩ := hP
  have hr : r = (kN ci, kT ci, kF ci) := Option.some.inj (h1.symm.trans hvw)
  subst hr
  obtain ⟨hS, hfc, kC, hkC, hkind⟩ := hK.1 ci _ hvw
  obtain ⟨cf, kf, fi, f, hi, hsl⟩ := hS k hk
  have hlay := hts _ (u_in_lay (C := kN ci) (T := kT ci) hk)
  have hst := (u_facts hfc hkC (u_lays hts (fun w h => h) hk) hi).1
  have hi2 : s.fieldFound? (kN ci) (kT ci k).2.1 (kT ci k).2.2.1 = some (cf, kf, fi, f) := by rw [← hself]; exact hi
  have end9 : ∀ H' : Heap, H'[a]? = some (cell.setSlot f.slot v) → va_at D vwCl (a, .inr (ci, fs.set k v)) H' := by
    intro H' e1
    rw [hsl] at e1
    exact ⟨_, hvw, t_OB.to (V := updV (vp_V fs) k v) ⟨_, e1, q2, q3, t_set q4 hap hk v⟩ (fun j _ => vp_updV_set hl v j)⟩
  rcases hfin with hf | ⟨hf, hin2, hdecl⟩
  · unfold u_lay at hlay
    rw [if_neg (by rw [hf]; decide)] at hlay
    have h6 := u_store hfc hkC hkind hlay hi (ky_all ci k hk) hn hfit
    exact W.putK hexec hb (f := f) ⟨hown, hlink, ⟨_, _, _, hi2⟩, hst⟩ (by rw [q2]; exact h6) q1 q3 (by rw [hsl]; exact k2_hasslot (q4 k hk)) rfl rfl hdg fun H' e1 e2 e3 => kk H' _ (end9 H' e1) e2 e3
  · unfold u_lay at hlay
    rw [if_pos hf] at hlay
    have hcf : m.cls = cf := by
      obtain ⟨_, _, c', _, _, _, -, -, hf', -, -, -, hown2, -⟩ := Cond.laysFinal_spec hlay
      have e1 : c' = cf := by have := hi.symm.trans hf'; simp at this; exact this.1.symm
      rw [hself, hdecl] at hown2
      rw [← e1]; exact Option.some.inj (hown.symm.trans hown2)
    have h6 := u_fits hfc hkC hkind (Or.inr hlay) hi (ky_all ci k hk) hn hfit
    exact W.putFinK hexec hb hown hlink hi2 hst hcf hin2 (by rw [q2]; exact h6) q1 q3 (by rw [hsl]; exact k2_hasslot (q4 k hk)) rfl rfl hdg fun H' e1 e2 e3 => kk H' _ (end9 H' e1) e2 e3
end Put
section Rows
variable {C : CT} {l : Launch} {K : KT} {R : RT} {Po : PoT} {pc pc' : Nat} {L L' : LT} {st : List Value} {S S' : ShT} {I I' : DI} {J J' : DJ} {u : Nat × Nat}
theorem v_get {a ci k idx : Nat} (av : Value) (hd : decode K.1 pc = .ok (.getfield idx, 3)) (hf : FL K.2.1 idx ci k) (ho : isO S a ci) (hv : cv C av = fV C S I J a k (kY ci k)) (hp : pc + 3 = pc') (kk : V C l K R Po pc' L (av :: st) S I J u) : V C l K R Po pc L (.ref a :: st) S I J u := by
  intro p e s m args below meth c hI H ls locs hM hL hS h1 h2
  subst hp
  obtain ⟨hC, hx, hb, hr, hml, hown, hlk, hh, hG, hM0, hnm⟩ := id hI
  obtain ⟨f1, f2, f3, f4⟩ := hf
  have hP := hM.one ho.1 (cel_o ho.2 f2)
  refine va_get (D := cD C) (cl := vwCl) (tys := []) (ci := ci) (C := kN ci) (T := kT ci) (N := kF ci) (Ts := u_ws (kN ci) (kT ci) (kF ci)) (ref := kN ci) hx hb (hG.lays hC ci args) (fun w h => h) hown (hG.K hC) hP 0 rfl (vw_at f2) k f1 (f4.at hC hG.1 args) (fun x h => by rw [← f3]; exact h) (fL_get f1) hd ?_
  rw [← hv]
  exact kk p e s m args below meth c hI H ls locs hM hL hS h1 h2
def isI (t : FieldType) : Bool := match t with
  | .int => true
  | .boolean => true
  | _ => false
def isR (t : FieldType) : Bool := match t with
  | .object _ => true
  | .array _ => true
  | _ => false
theorem fV_i {C : CT} {S : ShT} {I : DI} {J : DJ} {a k : Nat} {t : FieldType} (h : isI t = true) : fV C S I J a k t = .int (I a k) := by
  cases t <;> first | rfl | cases h
theorem fV_r {C : CT} {S : ShT} {I : DI} {J : DJ} {a k r : Nat} {t : FieldType} (h : isR t = true) (hr : S.2.2 a k = some r) : fV C S I J a k t = .ref (c0 C + r) := by
  cases t <;> first | (cases h; done) | (simp [fV, fR, hr])
theorem v_geti {a ci k idx : Nat} (hd : decode K.1 pc = .ok (.getfield idx, 3)) (hf : FL K.2.1 idx ci k) (ho : isO S a ci) (hy : isI (kY ci k) = true) (hp : pc + 3 = pc') (kk : V C l K R Po pc' L (.int (I a k) :: st) S I J u) : V C l K R Po pc L (.ref a :: st) S I J u := v_get (.int (I a k)) hd hf ho (fV_i hy).symm hp kk
theorem v_getl {a ci k idx : Nat} (hd : decode K.1 pc = .ok (.getfield idx, 3)) (hf : FL K.2.1 idx ci k) (ho : isO S a ci) (hy : kY ci k = .long) (hp : pc + 3 = pc') (kk : V C l K R Po pc' L (.long (J a k) :: st) S I J u) : V C l K R Po pc L (.ref a :: st) S I J u := v_get (.long (J a k)) hd hf ho (by rw [hy]; rfl) hp kk
theorem v_getr {a ci k idx r : Nat} (hd : decode K.1 pc = .ok (.getfield idx, 3)) (hf : FL K.2.1 idx ci k) (ho : isO S a ci) (hy : isR (kY ci k) = true) (hr : S.2.2 a k = some r) (hp : pc + 3 = pc') (kk : V C l K R Po pc' L (.ref r :: st) S I J u) : V C l K R Po pc L (.ref a :: st) S I J u := v_get (.ref r) hd hf ho (fV_r hy hr).symm hp kk
theorem va_S.put1 {A : Nat → Prop} {H0 H H1 : Heap} {locs : List Loc} {a i : Nat} (h : va_S A H0 H locs) (z : H1.size = H.size) (oq : ∀ q : Nat, q ≠ a → H1[q]? = H[q]?) (ha : A a) : va_S A H0 H1 (locs ++ [⟨a, i⟩]) := h.put z oq ha
theorem v_put {a ci k idx : Nat} {av : Value} (hd : decode K.1 pc = .ok (.putfield idx, 3)) (hf : FL K.2.1 idx ci k) (ho : isO S a ci) (hfin : (kT ci k).2.2.2 = false ∨ ((kT ci k).2.2.2 = true ∧ K.2.2.1 = "<init>" ∧ kN ci = K.2.1)) (hn : narrow (kY ci k) (cv C av) = cv C av) (hfit : fits (kY ci k) (cv C av) = true)
    (hs : S'.1 = S.1) (hk : S'.2.1 = S.2.1) (hc : ∀ b, b ≠ a → S'.2.2 b = S.2.2 b ∧ I' b = I b ∧ J' b = J b) (hv : ∀ j, j < kF ci → fV C S' I' J' a j (kY ci j) = if j = k then cv C av else fV C S I J a j (kY ci j))
    (hp : pc + 3 = pc') (kk : V C l K R Po pc' L st S' I' J' u) : V C l K R Po pc L (av :: .ref a :: st) S I J u := by
  intro p e s m args below meth c hI H ls locs hM hL hS h1 h2
  subst hp
  obtain ⟨hC, hx, hb, hr, hml, hown, hlk, hh, hG, hM0, hnm⟩ := id hI
  obtain ⟨f1, f2, f3, f4⟩ := hf
  have hP := hM.2 a ho.1
  rw [cel_o ho.2 f2] at hP
  have hlen : (fL C S I J a ci).length = kF ci := by simp [fL]
  refine put0 (D := cD C) (tys := []) hx hb (hG.lays hC ci args) hown (hG.K hC) hP f2 f1 f3 (f4.at hC hG.1 args) (by rw [hnm]; exact hfin) hn hfit (by rw [hlen]; exact f1) hd fun H1 i e1 e2 e3 => ?_
  have hS1 := hS.put1 (i := i) e2 e3 (Nat.le_add_right _ _)
  refine kk p e s m args below meth c hI H1 ls _ (hM.set e2 e3 ?_ hs (fun b _ hba => cel_eq (by rw [hk]) (hc b hba).1 (hc b hba).2.1 (hc b hba).2.2)) hL hS1 h1 h2
  rw [cel_o (by rw [hk]; exact ho.2) f2]
  have : (fL C S I J a ci).set k (cv C av) = fL C S' I' J' a ci := by
    apply List.ext_getElem?
    intro j
    by_cases hj : j < kF ci
    · rw [fL_get hj, hv j hj, List.getElem?_set]
      by_cases hjk : j = k
      · subst hjk
        simp [hlen, hj]
      · simp [hjk, Ne.symm hjk, fL_get hj]
    · rw [List.getElem?_eq_none (by rw [List.length_set, hlen]; omega), List.getElem?_eq_none (by simp [fL]; omega)]
  rw [← this]
  exact e1
theorem v_puti {a ci k idx : Nat} {x : Int32} (hd : decode K.1 pc = .ok (.putfield idx, 3)) (hf : FL K.2.1 idx ci k) (ho : isO S a ci) (hfin : (kT ci k).2.2.2 = false) (hy : kY ci k = .int) (hp : pc + 3 = pc') (kk : V C l K R Po pc' L st S (u2 I a k x) J u) : V C l K R Po pc L (.int x :: .ref a :: st) S I J u := by
  refine v_put (av := .int x) hd hf ho (Or.inl hfin) (by rw [hy]; rfl) (by rw [hy]; rfl) rfl rfl (fun b hb => ⟨rfl, u2_o hb, rfl⟩) (fun j hj => ?_) hp kk
  by_cases hjk : j = k
  · subst hjk
    rw [hy, if_pos rfl]
    show Value.int (u2 I a j x a j) = _
    rw [u2_s]
    rfl
  · rw [if_neg hjk]
    unfold fV
    simp only [u2_n (Or.inr hjk)]
theorem v_putz {a ci k idx : Nat} {x : Int32} (hd : decode K.1 pc = .ok (.putfield idx, 3)) (hf : FL K.2.1 idx ci k) (ho : isO S a ci) (hfin : (kT ci k).2.2.2 = false) (hy : kY ci k = .boolean) (hx : x = 0 ∨ x = 1) (hp : pc + 3 = pc') (kk : V C l K R Po pc' L st S (u2 I a k x) J u) : V C l K R Po pc L (.int x :: .ref a :: st) S I J u := by
  refine v_put (av := .int x) hd hf ho (Or.inl hfin) (by rw [hy]; rcases hx with rfl | rfl <;> rfl) (by rw [hy]; rcases hx with rfl | rfl <;> rfl) rfl rfl (fun b hb => ⟨rfl, u2_o hb, rfl⟩) (fun j hj => ?_) hp kk
  by_cases hjk : j = k
  · subst hjk
    rw [hy, if_pos rfl]
    show Value.int (u2 I a j x a j) = _
    rw [u2_s]
    rfl
  · rw [if_neg hjk]
    unfold fV
    simp only [u2_n (Or.inr hjk)]
theorem v_putl {a ci k idx : Nat} {x : Int64} (hd : decode K.1 pc = .ok (.putfield idx, 3)) (hf : FL K.2.1 idx ci k) (ho : isO S a ci) (hfin : (kT ci k).2.2.2 = false) (hy : kY ci k = .long) (hp : pc + 3 = pc') (kk : V C l K R Po pc' L st S I (u2 J a k x) u) : V C l K R Po pc L (.long x :: .ref a :: st) S I J u := by
  refine v_put (av := .long x) hd hf ho (Or.inl hfin) (by rw [hy]; rfl) (by rw [hy]; rfl) rfl rfl (fun b hb => ⟨rfl, rfl, u2_o hb⟩) (fun j hj => ?_) hp kk
  by_cases hjk : j = k
  · subst hjk
    rw [hy, if_pos rfl]
    show Value.long (u2 J a j x a j) = _
    rw [u2_s]
    rfl
  · rw [if_neg hjk]
    unfold fV
    simp only [u2_n (Or.inr hjk)]
/-- a final reference field, in its constructor -/
theorem v_putF {a ci k idx r : Nat} (hd : decode K.1 pc = .ok (.putfield idx, 3)) (hf : FL K.2.1 idx ci k) (ho : isO S a ci) (hfin : (kT ci k).2.2.2 = true) (hin : K.2.2.1 = "<init>") (hown : kN ci = K.2.1) (hy : isR (kY ci k) = true) (hp : pc + 3 = pc') (kk : V C l K R Po pc' L st (S.1, S.2.1, u2 S.2.2 a k (some r)) I J u) : V C l K R Po pc L (.ref r :: .ref a :: st) S I J u := by
  refine v_put (S' := (S.1, S.2.1, u2 S.2.2 a k (some r))) (av := .ref r) hd hf ho (Or.inr ⟨hfin, hin, hown⟩) ?_ ?_ rfl rfl (fun b hb => ⟨u2_o hb, rfl, rfl⟩) (fun j hj => ?_) hp kk
  · generalize kY ci k = t at hy
    cases t <;> first | rfl | cases hy
  · generalize kY ci k = t at hy
    cases t <;> first | rfl | cases hy
  · by_cases hjk : j = k
    · subst hjk
      rw [if_pos rfl, fV_r hy (show (u2 S.2.2 a j (some r)) a j = some r from u2_s)]
      rfl
    · rw [if_neg hjk]
      unfold fV
      simp only [u2_n (Or.inr hjk)]
end Rows
end
section
/-! ===== ROWS OF THE MEMORY: arrays; the script; long compares; switches ===== -/
theorem vp_in_j {i : Int32} {j n : Nat} (hi : i = nI j) (hj : j < n) (hn : n ≤ 1000) : vp_in i n := by
  rw [hi]
  exact vp_in_nI hj (by omega)
theorem cl_j {i : Int32} {j n : Nat} (hi : i = nI j) (hj : j < n) (hn : n ≤ 1000) : i.toNatClampNeg = j := by
  rw [hi]
  exact nI_clamp (by omega)
theorem MR.arr {C : CT} {S : ShT} {I : DI} {J : DJ} {H : Heap} (h : MR C S I J H) {a t n : Nat} (ha : isA S a t n) (ht : 32 ≤ t) : H[c0 C + a]? = some (vp_cell (cA C t) (fA C S I J a t n)) := by
  have hP := h.2 a ha.1
  rw [cel_a ha.2 ht] at hP
  exact hP
theorem MR.arrSet {C : CT} {S S' : ShT} {I I' : DI} {J J' : DJ} {H H' : Heap} (h : MR C S I J H) {a t n : Nat} (ha : isA S a t n) (ht : 32 ≤ t) (hz : H'.size = H.size) (ho : ∀ q, q ≠ c0 C + a → H'[q]? = H[q]?) (hs : S'.1 = S.1) (hk : S'.2.1 = S.2.1) (hc : ∀ b, b ≠ a → S'.2.2 b = S.2.2 b ∧ I' b = I b ∧ J' b = J b) (hn : H'[c0 C + a]? = some (vp_cell (cA C t) (fA C S' I' J' a t n))) : MR C S' I' J' H' := by
  refine h.set hz ho ?_ hs (fun b _ hba => cel_eq (by rw [hk]) (hc b hba).1 (hc b hba).2.1 (hc b hba).2.2)
  rw [cel_a (by rw [hk]; exact ha.2) ht]
  exact hn
theorem vc32 {C : CT} {S : ShT} {I : DI} {J : DJ} {a n : Nat} : vp_cell (cA C 32) (fA C S I J a 32 n) = arrV (cA C 32) n (fun j => .int (I a j)) := rfl
theorem vc33 {C : CT} {S : ShT} {I : DI} {J : DJ} {a n : Nat} : vp_cell (cA C 33) (fA C S I J a 33 n) = arrV (cA C 33) n (fun j => .int (I a j)) := rfl
theorem vc34 {C : CT} {S : ShT} {I : DI} {J : DJ} {a n : Nat} : vp_cell (cA C 34) (fA C S I J a 34 n) = arrV (cA C 34) n (fun j => .long (J a j)) := rfl
theorem fA_q {C : CT} {S : ShT} {I : DI} {J : DJ} {a t n : Nat} (ht : 35 ≤ t) : fA C S I J a t n = (n, .inr (.inr (.inr (.inr (fun j => (S.2.2 a j).map (fun r => c0 C + r)))))) := by
  unfold fA
  rw [if_neg (by omega), if_neg (by omega)]
theorem vcq {C : CT} {S : ShT} {I : DI} {J : DJ} {a t n : Nat} (ht : 35 ≤ t) : vp_cell (cA C t) (fA C S I J a t n) = arrV (cA C t) n (fun j => va_rf ((S.2.2 a j).map (fun r => c0 C + r))) := by
  rw [fA_q ht]
  rfl
section Rows
variable {C : CT} {l : Launch} {K : KT} {R : RT} {Po : PoT} {pc pc' : Nat} {L L' : LT} {st : List Value} {S S' : ShT} {I I' : DI} {J J' : DJ} {u : Nat × Nat}
theorem v_iald {a n j : Nat} {i : Int32} (hd : decode K.1 pc = .ok (.iaload, 1)) (ha : isA S a 32 n) (hi : i = nI j) (hj : j < n) (hn : n ≤ 1000) (hp : pc + 1 = pc') (kk : V C l K R Po pc' L (.int (I a j) :: st) S I J u) : V C l K R Po pc L (.int i :: .ref a :: st) S I J u := by
  intro p e s m args below meth c hI H ls locs hM hL hS h1 h2
  subst hp
  obtain ⟨hC, hx, hb, hr, hml, hown, hlk, hh, hG, hM0, hnm⟩ := id hI
  have hcell := hM.arr ha (by omega)
  rw [vc32] at hcell
  refine W.iald (v := .int (I a j)) hx hb hcell ((hG.arr hC (t := 32) (by omega)).1 n (fun j => .int (I a j))) (fun q => by cases q) (by show ¬ (i < 0 ∨ (arrV _ _ _).slots.size ≤ _); rw [arrV_size]; exact vp_in_j hi hj hn) (by show (arrV _ _ _).slots[_]? = _; rw [cl_j hi hj hn, arrV_read _ _ hj]) rfl rfl hd ?_
  exact kk p e s m args below meth c hI H ls locs hM hL hS h1 h2
theorem v_zald {a n j : Nat} {i : Int32} (hd : decode K.1 pc = .ok (.baload, 1)) (ha : isA S a 33 n) (hi : i = nI j) (hj : j < n) (hn : n ≤ 1000) (hp : pc + 1 = pc') (kk : V C l K R Po pc' L (.int (I a j) :: st) S I J u) : V C l K R Po pc L (.int i :: .ref a :: st) S I J u := by
  intro p e s m args below meth c hI H ls locs hM hL hS h1 h2
  subst hp
  obtain ⟨hC, hx, hb, hr, hml, hown, hlk, hh, hG, hM0, hnm⟩ := id hI
  have hK : va_K (cD C) vwCl [(cA C 33, .boolean)] s := ⟨(hG.K hC).1, fun k q hk => by
    cases k with
    | zero => cases hk; exact hG.arr hC (t := 33) (by omega)
    | succ k => cases hk⟩
  have hP := hM.one ha.1 (cel_a ha.2 (by omega))
  refine va_zald (D := cD C) (cl := vwCl) (tys := [(cA C 33, .boolean)]) (n := n) (f := I a) hx hb hK hP 0 0 rfl rfl (vp_in_j hi hj hn) hd ?_
  rw [cl_j hi hj hn]
  exact kk p e s m args below meth c hI H ls locs hM hL hS h1 h2
theorem v_lald {a n j : Nat} {i : Int32} (hd : decode K.1 pc = .ok (.laload, 1)) (ha : isA S a 34 n) (hi : i = nI j) (hj : j < n) (hn : n ≤ 1000) (hp : pc + 1 = pc') (kk : V C l K R Po pc' L (.long (J a j) :: st) S I J u) : V C l K R Po pc L (.int i :: .ref a :: st) S I J u := by
  intro p e s m args below meth c hI H ls locs hM hL hS h1 h2
  subst hp
  obtain ⟨hC, hx, hb, hr, hml, hown, hlk, hh, hG, hM0, hnm⟩ := id hI
  have hK : va_K (cD C) vwCl [(cA C 34, .long)] s := ⟨(hG.K hC).1, fun k q hk => by
    cases k with
    | zero => cases hk; exact hG.arr hC (t := 34) (by omega)
    | succ k => cases hk⟩
  have hP := hM.one ha.1 (cel_a ha.2 (by omega))
  refine va_lald (D := cD C) (cl := vwCl) (tys := [(cA C 34, .long)]) (n := n) (f := J a) hx hb hK hP 0 0 rfl rfl (vp_in_j hi hj hn) hd ?_
  rw [cl_j hi hj hn]
  exact kk p e s m args below meth c hI H ls locs hM hL hS h1 h2
theorem tg_ref {t : Nat} (ht : 35 ≤ t) : (tgT t).isReference = true := by
  unfold tgT
  split <;> first | omega | rfl
theorem v_aald {a t n j r : Nat} {i : Int32} (hd : decode K.1 pc = .ok (.aaload, 1)) (ha : isA S a t n) (ht : 35 ≤ t) (hi : i = nI j) (hj : j < n) (hn : n ≤ 1000) (hr : S.2.2 a j = some r) (hp : pc + 1 = pc') (kk : V C l K R Po pc' L (.ref r :: st) S I J u) : V C l K R Po pc L (.int i :: .ref a :: st) S I J u := by
  intro p e s m args below meth c hI H ls locs hM hL hS h1 h2
  subst hp
  obtain ⟨hC, hx, hb, hrt, hml, hown, hlk, hh, hG, hM0, hnm⟩ := id hI
  have hcell := hM.arr ha (by omega)
  rw [vcq ht] at hcell
  refine W.aald (v := .ref (c0 C + r)) (ty := tgT t) hx hb hcell ((hG.arr hC (t := t) (by omega)).1 n (fun j => va_rf ((S.2.2 a j).map (fun r => c0 C + r)))) (tg_ref ht) (fun q => by cases q) (by show ¬ (i < 0 ∨ (arrV _ _ _).slots.size ≤ _); rw [arrV_size]; exact vp_in_j hi hj hn) (by show (arrV _ _ _).slots[_]? = _; rw [cl_j hi hj hn, arrV_read _ _ hj]; simp only [hr]; rfl) rfl rfl hd ?_
  exact kk p e s m args below meth c hI H ls locs hM hL hS h1 h2
theorem v_iast {a n j : Nat} {i x : Int32} (hd : decode K.1 pc = .ok (.iastore, 1)) (ha : isA S a 32 n) (hi : i = nI j) (hj : j < n) (hn : n ≤ 1000) (hp : pc + 1 = pc') (kk : V C l K R Po pc' L st S (u2 I a j x) J u) : V C l K R Po pc L (.int x :: .int i :: .ref a :: st) S I J u := by
  intro p e s m args below meth c hI H ls locs hM hL hS h1 h2
  subst hp
  obtain ⟨hC, hx, hb, hr, hml, hown, hlk, hh, hG, hM0, hnm⟩ := id hI
  refine W.iast hx hb (hM.arr ha (by omega)) ((hG.arr hC (t := 32) (by omega)).1 n (fun j => .int (I a j))) (fun q => by cases q) (by show ¬ (i < 0 ∨ (arrV _ _ _).slots.size ≤ _); rw [arrV_size]; exact vp_in_j hi hj hn) rfl rfl hd fun H1 e1 e2 e3 => ?_
  refine kk p e s m args below meth c hI H1 ls _ (hM.arrSet ha (by omega) e2 e3 rfl rfl (fun b hb => ⟨rfl, u2_o hb, rfl⟩) ?_) hL (hS.put e2 e3 (Nat.le_add_right _ _)) h1 h2
  rw [e1, cl_j hi hj hn]
  rw [vc32, vc32, arrV_store]
  congr 2
  funext q
  by_cases hq : q = j
  · subst hq
    simp [updV, u2_s]
  · simp [updV, hq, u2_n (Or.inr hq)]
theorem v_zast {a n j : Nat} {i x : Int32} (hd : decode K.1 pc = .ok (.bastore, 1)) (ha : isA S a 33 n) (hi : i = nI j) (hj : j < n) (hn : n ≤ 1000) (hx01 : x = 0 ∨ x = 1) (hp : pc + 1 = pc') (kk : V C l K R Po pc' L st S (u2 I a j x) J u) : V C l K R Po pc L (.int x :: .int i :: .ref a :: st) S I J u := by
  intro p e s m args below meth c hI H ls locs hM hL hS h1 h2
  subst hp
  obtain ⟨hC, hx, hb, hr, hml, hown, hlk, hh, hG, hM0, hnm⟩ := id hI
  refine W.zast hx hb (hM.arr ha (by omega)) ((hG.arr hC (t := 33) (by omega)).1 n (fun j => .int (I a j))) (fun q => by cases q) (by show ¬ (i < 0 ∨ (arrV _ _ _).slots.size ≤ _); rw [arrV_size]; exact vp_in_j hi hj hn) rfl rfl hd fun H1 e1 e2 e3 => ?_
  refine kk p e s m args below meth c hI H1 ls _ (hM.arrSet ha (by omega) e2 e3 rfl rfl (fun b hb => ⟨rfl, u2_o hb, rfl⟩) ?_) hL (hS.put e2 e3 (Nat.le_add_right _ _)) h1 h2
  have hnr : narrow .boolean (.int x) = .int x := by rcases hx01 with rfl | rfl <;> rfl
  rw [e1, cl_j hi hj hn, hnr]
  rw [vc33, vc33, arrV_store]
  congr 2
  funext q
  by_cases hq : q = j
  · subst hq
    simp [updV, u2_s]
  · simp [updV, hq, u2_n (Or.inr hq)]
theorem v_last {a n j : Nat} {i : Int32} {x : Int64} (hd : decode K.1 pc = .ok (.lastore, 1)) (ha : isA S a 34 n) (hi : i = nI j) (hj : j < n) (hn : n ≤ 1000) (hp : pc + 1 = pc') (kk : V C l K R Po pc' L st S I (u2 J a j x) u) : V C l K R Po pc L (.long x :: .int i :: .ref a :: st) S I J u := by
  intro p e s m args below meth c hI H ls locs hM hL hS h1 h2
  subst hp
  obtain ⟨hC, hx, hb, hr, hml, hown, hlk, hh, hG, hM0, hnm⟩ := id hI
  refine W.last hx hb (hM.arr ha (by omega)) ((hG.arr hC (t := 34) (by omega)).1 n (fun j => .long (J a j))) (fun q => by cases q) (by show ¬ (i < 0 ∨ (arrV _ _ _).slots.size ≤ _); rw [arrV_size]; exact vp_in_j hi hj hn) rfl rfl hd fun H1 e1 e2 e3 => ?_
  refine kk p e s m args below meth c hI H1 ls _ (hM.arrSet ha (by omega) e2 e3 rfl rfl (fun b hb => ⟨rfl, rfl, u2_o hb⟩) ?_) hL (hS.put e2 e3 (Nat.le_add_right _ _)) h1 h2
  rw [e1, cl_j hi hj hn]
  rw [vc34, vc34, arrV_store]
  congr 2
  funext q
  by_cases hq : q = j
  · subst hq
    simp [updV, u2_s]
  · simp [updV, hq, u2_n (Or.inr hq)]
theorem v_aast {a v t n j ci : Nat} {i : Int32} (hd : decode K.1 pc = .ok (.aastore, 1)) (ha : isA S a t n) (ht : 35 ≤ t) (hv : isO S v ci) (hc : ci < 12) (htc : tgT t = .object (kN ci)) (hi : i = nI j) (hj : j < n) (hn : n ≤ 1000) (hp : pc + 1 = pc') (kk : V C l K R Po pc' L st (S.1, S.2.1, u2 S.2.2 a j (some v)) I J u) : V C l K R Po pc L (.ref v :: .int i :: .ref a :: st) S I J u := by
  intro p e s m args below meth c hI H ls locs hM hL hS h1 h2
  subst hp
  obtain ⟨hC, hx, hb, hr, hml, hown, hlk, hh, hG, hM0, hnm⟩ := id hI
  have hcell := hM.arr ha (by omega)
  rw [vcq ht] at hcell
  have hPv := hM.2 v hv.1
  rw [cel_o hv.2 hc] at hPv
  obtain ⟨r', hr', cellV, g1, g2, g3, -⟩ := hPv
  have hcls := ((hG.K hC).1 ci _ (vw_at hc)).2
  have hRA := (hG.arr hC (t := t) (by omega)).2
  rw [htc] at hRA
  obtain ⟨kA, comp, k1, k2, k3, -⟩ := hRA
  have hcomp : comp = (cD C).1 ci := Option.some.inj (k3.symm.trans hcls.1)
  subst hcomp
  obtain ⟨kC, hkC, -⟩ := hcls.2
  have hin := vp_in_j hi hj hn
  refine W.aast hx hb hcell (fun q h => by cases h) (fun h => by cases h) k1 k2 rfl hkC ⟨fun q => hin (Or.inl q), by show _ < (arrV _ _ _).slots.size; rw [arrV_size, cl_j hi hj hn]; exact hj⟩ g1 (fun q h => by rw [g3] at h; cases h) (by rw [g2]; exact hkC) (by rw [g2]; exact va_assign hcls) rfl rfl hd fun H1 e1 e2 e3 => ?_
  refine kk p e s m args below meth c hI H1 ls _ (hM.arrSet (S' := (S.1, S.2.1, u2 S.2.2 a j (some v))) ha (by omega) e2 e3 rfl rfl (fun b hb => ⟨u2_o hb, rfl, rfl⟩) ?_) hL (hS.put e2 e3 (Nat.le_add_right _ _)) h1 h2
  rw [e1, cl_j hi hj hn, vcq ht, arrV_store]
  congr 2
  funext q
  by_cases hq : q = j
  · subst hq
    simp [updV, u2_s, va_rf]
  · simp [updV, hq, u2_n (Or.inr hq)]
/-- the script: its length, its ints -/
theorem v_slen {z : Nat} (hd : decode K.1 pc = .ok (.arraylength, 1)) (hp : pc + 1 = pc') (kk : V C l K R Po pc' L (.int (nI (cN C)) :: st) S I J u) : V C l K R Po pc L (.retAddr z :: st) S I J u := by
  intro p e s m args below meth c hI H ls locs hM hL hS h1 h2
  subst hp
  obtain ⟨hC, hx, hb, hr, hml, hown, hlk, hh, hG, ⟨S0, I0, J0, hM0⟩, hnm⟩ := id hI
  have hX : va_X (cB C) (cN C) (cX C) s s.heap := (va_X.moved hG.1.alike hC.2.2.2.2.1).kept (hG.2 _ hC.2.2.2.2.2.1)
  have hbl : cB C < s.heap.size := by have h := hM0.1; have h' := hC.2.2.2.2.2.1; omega
  refine va_slen hx hb hX hbl (Nat.not_le.mpr hC.2.2.2.2.2.1) hS hd ?_
  exact kk p e s m args below meth c hI H ls locs hM hL hS h1 h2
theorem v_sld {z j : Nat} {i : Int32} (hd : decode K.1 pc = .ok (.iaload, 1)) (hi : i = nI j) (hj : j < cN C) (hn : cN C ≤ 2560) (hp : pc + 1 = pc') (kk : V C l K R Po pc' L (.int (cX C j) :: st) S I J u) : V C l K R Po pc L (.int i :: .retAddr z :: st) S I J u := by
  intro p e s m args below meth c hI H ls locs hM hL hS h1 h2
  subst hp
  obtain ⟨hC, hx, hb, hr, hml, hown, hlk, hh, hG, ⟨S0, I0, J0, hM0⟩, hnm⟩ := id hI
  have hX : va_X (cB C) (cN C) (cX C) s s.heap := (va_X.moved hG.1.alike hC.2.2.2.2.1).kept (hG.2 _ hC.2.2.2.2.2.1)
  have hbl : cB C < s.heap.size := by have h := hM0.1; have h' := hC.2.2.2.2.2.1; omega
  refine va_sld hx hb hX hbl (Nat.not_le.mpr hC.2.2.2.2.2.1) hS (i := i) (by rw [hi]; exact vp_in_nI hj (by omega)) hd ?_
  rw [show i.toNatClampNeg = j by rw [hi]; exact nI_clamp (by omega)]
  exact kk p e s m args below meth c hI H ls locs hM hL hS h1 h2
theorem v_lcmp {x y : Int64} (hd : decode K.1 pc = .ok (.lcmp, 1)) (hp : pc + 1 = pc') (kk : V C l K R Po pc' L (.int (lg_cmp x y) :: st) S I J u) : V C l K R Po pc L (.long y :: .long x :: st) S I J u := by
  intro p e s m args below meth c hI H ls locs hM hL hS h1 h2
  subst hp
  exact W.lcmp hI.2.1 hI.2.2.1 hd (kk p e s m args below meth c hI H ls locs hM hL hS h1 h2)
theorem v_ldc2 {idx : Nat} {v : Int64} (hd : decode K.1 pc = .ok (.ldc2_w idx, 3)) (hw : Wd (.constantLong K.2.1 idx v)) (hp : pc + 3 = pc') (kk : V C l K R Po pc' L (.long v :: st) S I J u) : V C l K R Po pc L st S I J u := by
  intro p e s m args below meth c hI H ls locs hM hL hS h1 h2
  subst hp
  obtain ⟨hC, hx, hb, hr, hml, hown, hlk, hh, hG, hM0, hnm⟩ := id hI
  exact lv_ldc2 hx hb hown (hw.at hC hG.1 args) hd (kk p e s m args below meth c hI H ls locs hM hL hS h1 h2)
theorem v_tabO {dflt lo hi : Int} {offs : Array Int} {len : Nat} {x : Int32} {tgt : Nat} (hd : decode K.1 pc = .ok (.tableswitch dflt lo hi offs, len)) (h : x.toInt < lo ∨ hi < x.toInt) (ht : (pc : Int) + dflt = (tgt : Int)) (kk : V C l K R Po tgt L st S I J u) : V C l K R Po pc L (.int x :: st) S I J u := by
  intro p e s m args below meth c hI H ls locs hM hL hS h1 h2
  exact lv_tableOut hI.2.1 hI.2.2.1 hd h ht (kk p e s m args below meth c hI H ls locs hM hL hS h1 h2)
theorem v_tabI {dflt lo hi : Int} {offs : Array Int} {len : Nat} {x : Int32} {off : Int} {tgt : Nat} (hd : decode K.1 pc = .ok (.tableswitch dflt lo hi offs, len)) (h1 : ¬ x.toInt < lo) (h2 : ¬ hi < x.toInt) (ho : offs[(x.toInt - lo).toNat]? = some off) (ht : (pc : Int) + off = (tgt : Int)) (kk : V C l K R Po tgt L st S I J u) : V C l K R Po pc L (.int x :: st) S I J u := by
  intro p e s m args below meth c hI H ls locs hM hL hS g1 g2
  exact lv_tableIn hI.2.1 hI.2.2.1 hd h1 h2 ho ht (kk p e s m args below meth c hI H ls locs hM hL hS g1 g2)
end Rows
end
section
/-! ===== A METHOD'S END, ITS CONTRACT ===== -/
theorem GG.on {C : CT} {s t : State} {H : Heap} {locs : List Loc} (h : GG C s) (hS : va_S (AX C) s.heap H locs) (hz : c0 C ≤ s.heap.size) (ht : t.heap = H) (hW : s.WarmedH t.vm) : GG C t :=
  ⟨State.WarmedH.trans h.1 hW, fun q hq => by rw [ht, hS.2.1 q (Nat.lt_of_lt_of_le hq hz) (Nat.not_le.mpr hq)]; exact h.2 q hq⟩
theorem MR.z {C : CT} {S : ShT} {I : DI} {J : DJ} {H : Heap} (h : MR C S I J H) : c0 C ≤ H.size := by rw [h.1]; exact Nat.le_add_right _ _
section WM
variable {p : Program} {l : Launch} {e : Env} {R : Room} {s : State} {m : MethodId} {args : Array Value} {below : List Frame} {meth : Method} {c : Code} {H : Heap} {locs : List Loc} {cells slots : Nat} {Q Q' : State → Prop}
theorem W.mono {g : JFrame} (h : ∀ t, Q t → Q' t) (w : W p l e R s m args below meth c H locs cells slots Q g) : W p l e R s m args below meth c H locs cells slots Q' g := fun T hT X => by
  obtain ⟨t, a, b⟩ := w T hT X
  exact ⟨t, a, h t b⟩
end WM
section Rows
variable {C : CT} {l : Launch} {K : KT} {R : RT} {Po : PoT} {pc pc' : Nat} {L L' : LT} {st : List Value} {S S' : ShT} {I I' : DI} {J J' : DJ} {u : Nat × Nat}
/-- any of the returns -/
theorem v_end {r : Option Value} (hp : Po (.inl r) S I J) (k : ∀ (p : Program) (e : Env) (s : State) (m : MethodId) (args : Array Value) (below : List Frame) (meth : Method) (c : Code), Iv C l K p s m meth c → ∀ (H : Heap) (ls : Array Slot) (locs : List Loc) (x y : Nat) (Qc : Array Value → State → Outcome → State → Prop), (∀ t : State, t.heap = H → s.WarmedH t.vm → Qc args s (.returned (r.map (cv C))) t) → (∀ q ∈ locs, c0 C ≤ q.base) →
    W p l e (RM R) s m args below meth c H locs x y (MQ below Qc args s x y (fun q => c0 C ≤ q)) (F0 m pc ls (st.map (cv C)))) : V C l K R Po pc L st S I J u := by
  intro p e s m args below meth c hI H ls locs hM hL hS h1 h2
  obtain ⟨hC, hx, hb, hr, hml, hown, hlk, hh, hG, ⟨S0, I0, J0, hM0⟩, hnm⟩ := id hI
  refine W.widen (k := R.2.1) (n := R.2.2) h1 h2 ?_
  refine W.mono ?_ (k p e s m args below meth c hI H ls locs R.2.1 R.2.2 (fun _ _ o t => o = .returned (r.map (cv C)) ∧ t.heap = H) (fun t ht _ => ⟨rfl, ht⟩) hS.2.2)
  rintro t ⟨o, a1, a2, ⟨rfl, a3⟩, Lc, ⟨-, hW, hsm⟩, a5⟩
  exact ⟨_, a1, a2, ⟨.inl r, S, I, J, hp, by rw [a3]; exact hM, hG.on hS hM0.z a3 hW, rfl⟩, Lc, hW, hsm, a5⟩
theorem v_iret {x : Int32} (hd : decode K.1 pc = .ok (.ireturn, 1)) (ht : K.2.2.2.2.2 = some .int) (hp : Po (.inl (some (.int x))) S I J) : V C l K R Po pc L [.int x] S I J u :=
  v_end hp (fun p e s m args below meth c hI H ls locs _ _ Qc hq hf => by
    have hlk : meth.locks = false := hI.2.2.2.2.2.2.1
    exact W.iret hI.2.1 hI.2.2.1 (hI.2.2.2.1.trans ht) hq hf hd)
theorem v_zret {x : Int32} (hd : decode K.1 pc = .ok (.ireturn, 1)) (ht : K.2.2.2.2.2 = some .boolean) (hx : x = 0 ∨ x = 1) (hp : Po (.inl (some (.int x))) S I J) : V C l K R Po pc L [.int x] S I J u :=
  v_end hp (fun p e s m args below meth c hI H ls locs _ _ Qc hq hf => by
    have hlk : meth.locks = false := hI.2.2.2.2.2.2.1
    have hn : narrow .boolean (.int x) = .int x := by rcases hx with rfl | rfl <;> rfl
    intro T hT X
    obtain ⟨fs, hret, hrun, hended, hW, hframe⟩ := X.leave (v := some (.int x)) (fun h => by rw [hI.2.2.2.1.trans ht] at h; cases h)
    have hmeth' : T.vm.method? m = some meth := X.method'
    refine ⟨T.setFrames fs, ?_, .returned (some (.int x)), hrun, hended, hq _ hT hW, locs, ⟨⟨_, rfl⟩, hW, hframe⟩, hf⟩
    have hexec := hI.2.1
    have hb := hI.2.2.1
    have hr := hI.2.2.2.1.trans ht
    show Steps p.tables e below (T.setTop (F0 m pc ls [.int x])) (T.setFrames fs)
    jvm_step X.here [X.here.top, hexec, hb, hd, hmeth', hr, hn]
    (try refine ⟨rfl, ?_⟩); (try refine ⟨rfl, ?_⟩)
    first | (intro acts; rw [hret _ acts rfl rfl rfl]) | rw [hret _ _ rfl rfl rfl]
    exact Steps.refl _)
theorem v_vret (hd : decode K.1 pc = .ok (.return_, 1)) (ht : K.2.2.2.2.2 = none) (hp : Po (.inl none) S I J) : V C l K R Po pc L [] S I J u :=
  v_end hp (fun p e s m args below meth c hI H ls locs _ _ Qc hq hf => by
    have hlk : meth.locks = false := hI.2.2.2.2.2.2.1
    exact W.vret hI.2.1 hI.2.2.1 (hI.2.2.2.1.trans ht) hq hf hd)
theorem v_lret {x : Int64} (hd : decode K.1 pc = .ok (.lreturn, 1)) (ht : K.2.2.2.2.2 = some .long) (hp : Po (.inl (some (.long x))) S I J) : V C l K R Po pc L [.long x] S I J u :=
  v_end hp (fun p e s m args below meth c hI H ls locs _ _ Qc hq hf => by
    have hlk : meth.locks = false := hI.2.2.2.2.2.2.1
    exact W.lret hI.2.1 hI.2.2.1 (hI.2.2.2.1.trans ht) hq hf hd)
end Rows
end
section
/-! ===== CONTRACTS AND CALLS ===== -/
def cwd (K : KT) (y : MethodName) : Cond := match K.2.2.2.1 with
  | [] => .code y K.1 K.2.2.2.2.1 K.2.2.2.2.2
  | h :: t => .codeWith y K.1 K.2.2.2.2.1 K.2.2.2.2.2 (h :: t)
/-- the card K is that of the method y: its word stands in the tables, its class is initialised there -/
def Cd (K : KT) (y : MethodName) : Prop := K.2.1 = y.cls ∧ K.2.2.1 = y.name ∧ plainName y.cls = true ∧ (y.cls ≠ "java/lang/invoke/MethodHandle" ∧ y.cls ≠ "java/lang/invoke/VarHandle") ∧ Wd (cwd K y) ∧ Wd (.initialized y.cls) ∧ K.2.2.2.2.1 ≤ 17
theorem cwd_spec {K : KT} {y : MethodName} {a : Array Value} {s : State} {m : MethodId} (hn : s.methodNamed? y = some m) (h : (cwd K y).before a s = true) :
    ∃ meth c, s.vm.method? m = some meth ∧ meth.code = some c ∧ c.code = K.1 ∧ c.maxLocals = K.2.2.2.2.1 ∧ meth.sig.returnType = K.2.2.2.2.2 ∧ meth.locks = false ∧ c.exceptionTable.toList.map (fun x => (x.startPc, x.endPc, x.handlerPc, x.catchType)) = K.2.2.2.1 ∧ parseMethodDescriptor y.desc = some meth.sig := by
  unfold cwd at h
  split at h
  · rename_i hh
    obtain ⟨meth, c, h1, h2, h3, h4, h5, h6, h7, h8⟩ := Cond.code_spec hn h
    refine ⟨meth, c, h1, h2, h3, h4, h5, h6, ?_, h8⟩
    rw [hh]
    have : c.exceptionTable.toList = [] := by
      have h9 : c.exceptionTable = #[] := by simpa using h7
      rw [h9]
    rw [this]
    rfl
  · rename_i a1 a2 hh
    obtain ⟨m', meth, c, g0, h1, h2, h3, h4, h5, h6, h7, h8⟩ := Cond.codeWith_spec h
    cases hn.symm.trans g0
    refine ⟨meth, c, h1, h2, h3, h4, h6, h7, ?_, h8⟩
    rw [hh]
    exact h5
theorem cwd_named {K : KT} {y : MethodName} {a : Array Value} {s : State} (h : (cwd K y).before a s = true) : ∃ m, s.methodNamed? y = some m := by
  unfold cwd at h
  split at h
  · exact Cond.code_named h
  · obtain ⟨m', meth, c, g0, -⟩ := Cond.codeWith_spec h
    exact ⟨m', g0⟩
/-- THE CONTRACT of the method y with these arguments, from this memory: it comes to an end with Po, within the room R -/
def Sp (C : CT) (l : Launch) (K : KT) (y : MethodName) (R : RT) (as : List Value) (S : ShT) (I : DI) (J : DJ) (Po : PoT) : Prop :=
  MetFree l y (headSpec [cwd K y] (RM R)) (fun a U => a = (as.map (cv C)).toArray ∧ MR C S I J U.heap ∧ GG C U) (fun _ _ _ _ _ => True) (fun _ st o t => QX C Po o t ∧ EX C R st t)
theorem lv_args_map (C : CT) : ∀ (as : List Value) (i : Nat), lv_args i (as.map (cv C)) = lC C (lv_args i as)
  | [], i => rfl
  | v :: r, i => by
    have h := lv_args_map C r (if v.category = 2 then i + 2 else i + 1)
    simp only [List.map_cons, lv_args, cv_cat, lC] at h ⊢
    rw [h]
    try rfl
theorem lg_sl_len (C : CT) : ∀ as : List Value, (lg_sl (as.map (cv C))).length = (lg_sl as).length
  | [] => rfl
  | v :: r => by
    have h := lg_sl_len C r
    cases v <;> simp_all [lg_sl, cv] <;> rfl
theorem Sp.of {C : CT} {l : Launch} {K : KT} {y : MethodName} {R : RT} {as : List Value} {S : ShT} {I : DI} {J : DJ} {Po : PoT} (hC : OKC C l) (hK : Cd K y) (hlen : (lg_sl as).length ≤ K.2.2.2.2.1) (h : V C l K R Po 0 (lv_args 0 as) [] S I J (0, 0)) : Sp C l K y R as S I J Po := by
  obtain ⟨k1, k2, k3, k4, k5, k6, k7⟩ := hK
  refine MetFree.of_bodyS (code := K.1) (maxLocals := K.2.2.2.2.1) (ret := K.2.2.2.2.2) k3 ?_ ?_
  · intro args s m hp hn
    obtain ⟨meth, c, h1, h2, h3, h4, h5, h6, -, -⟩ := cwd_spec hn (atoms_spec (ws := [cwd K y]) hp _ List.mem_cons_self)
    exact ⟨meth, c, h1, h2, h3, h4, h5, h6⟩
  · intro p e s m args below meth c s₁ B hml hP _
    obtain ⟨rfl, hM, hG⟩ := hP
    have hh0 : s₁.heap = s.heap := by rw [B.state]; rfl
    obtain ⟨meth', c', h1, h2, h3, h4, h5, h6, h7, -⟩ := cwd_spec B.named (atoms_spec (ws := [cwd K y]) B.pre _ List.mem_cons_self)
    cases B.method.symm.trans h1
    cases (Stand.of_body B).code.symm.trans h2
    have hI : Iv C l K p s m meth c := ⟨hC, B.exec, B.bytes, B.returns, hml, by rw [k1]; exact findClass_of_methodNamed B.named, B.notSynchronized, h7, hG, ⟨S, I, J, hM⟩, by rw [k2]; exact (name_of_methodNamed B.named B.method).1⟩
    have hl := lv_entry (as.map (cv C)) (n := K.2.2.2.2.1) (by rw [lg_sl_len]; exact hlen)
    have w := h p e s m (as.map (cv C)).toArray below meth c hI s.heap _ [] hM (by rw [lv_args_map] at hl; exact hl) va_S.rf (Nat.zero_le _) (Nat.zero_le _)
    obtain ⟨t, a1, o, b1, b2, b3⟩ := w s₁ hh0 (Stand.of_body B)
    refine ⟨t, o, ?_, b1, b2, b3⟩
    rw [lg_entry_eq]
    exact a1
section Run
variable {C : CT} {l : Launch} {K K' : KT} {R R' : RT} {Po : PoT} {S S' : ShT} {I I' : DI} {J J' : DJ} {u : Nat × Nat}
variable {p : Program} {e : Env} {s : State} {m : MethodId} {args : Array Value} {below : List Frame} {meth : Method} {c : Code} {T : State} {locs : List Loc} {uc us : Nat} {y : MethodName} {as : List Value}
/-- the callee's run: it comes back, or it throws -/
theorem Sp.run (X : Stand p l e (RM R) s m args below meth c T locs uc us) (hC : OKC C l) (hK : Cd K' y) (hSp : Sp C l K' y R' as S I J Po) (hM : MR C S I J T.heap) (hG : GG C T) {mk : MethodId} (hn : T.methodNamed? y = some mk)
    {g : JFrame} (hg : g.method = m) (hsize : g.locals.size = c.maxLocals) {ig : Instr} (hdg : decode c.code g.pc = .ok (ig, 3)) (hW : 2 * g.monitorRoom + (g.stack.map fun v => v.category).sum ≤ 8) (hfr : R'.1 + 1 ≤ R.1) (hcl : uc + R'.2.1 ≤ R.2.1) (hsl : us + R'.2.2 ≤ R.2.2) :
    ∃ (r : RsT) (S' : ShT) (I' : DI) (J' : DJ) (T' : State) (Lc : List Loc), Po r S' I' J' ∧ MR C S' I' J' T'.heap ∧ GG C T' ∧ Stand p l e (RM R) s m args below meth c T' (locs ++ Lc) (uc + R'.2.1) (us + R'.2.2) ∧ (∀ q ∈ Lc, c0 C ≤ q.base) ∧
      match r with
      | .inl v => Steps p.tables e below (doInvoke e (T.setTop g) [] mk (as.map (cv C)).toArray).1 (T'.setTop { g with pc := g.pc + 3, stack := (v.map (cv C)).toList ++ g.stack })
      | .inr ci => ∃ k, S'.1 = k + 1 ∧ (S'.2.1 k).1 = ci ∧ Steps p.tables e below (doInvoke e (T.setTop g) [] mk (as.map (cv C)).toArray).1 ((T'.setTop g).pushFrame (.throwing (c0 C + k))) := by
  obtain ⟨k1, k2, k3, k4, k5, k6, k7⟩ := hK
  have hcw : (cwd K' y).before (as.map (cv C)).toArray T = true := k5.at hC hG.1 _
  obtain ⟨methY, cY, hmY, hcY, -, hlY, -, -, -, -⟩ := cwd_spec hn hcw
  obtain ⟨kY, hkY, -⟩ := className_of_methodNamed hn
  have hinitY : kY.init = .initialized := Cond.initialized_spec (findClass_of_methodNamed hn) hkY (k6.at hC hG.1 (as.map (cv C)).toArray)
  have h : At T g.method c below := by rw [hg]; exact X.here
  have happ : (headSpec [cwd K' y] (RM R')).appliesLoose y e.platform (T.calling g mk (as.map (cv C)).toArray) = true :=
    Spec.appliesLoose_calling (g := g) h hdg hn hkY hinitY
      (X.room_calling (g := g) (R' := RM R') hsize hmY hcY hfr (by rw [hlY]; show _ + _ + 36 * R'.1 ≤ 36 * R.1; omega) hcl hsl) (atoms_intro fun w hw => by
        rw [List.mem_singleton.mp hw]
        exact hcw)
  obtain ⟨mid, hmid⟩ := h.above
  have hfr2 : (T.setTop g).frames = (.java g :: mid) ++ below := by rw [State.frames_setTop' g h.top, hmid]; rfl
  have hcall : ∃ o s₂, Steps p.tables e below (doInvoke e (T.setTop g) [] mk (as.map (cv C)).toArray).1 s₂ ∧ s₂.status = .running ∧ Ended s₂ (T.setTop g).frames o ∧ (QX C Po o s₂ ∧ EX C R' (T.calling g mk (as.map (cv C)).toArray) s₂) :=
    Steps.callFree hSp p X.admits X.cas X.clock (acts := []) hfr2 happ ⟨rfl, hM, hG⟩ trivial
  obtain ⟨o, s₂, hsteps, -, hend, ⟨r, S', I', J', q1, q2, q3, q4⟩, Lc, e1, e2, e3⟩ := hcall
  rw [State.frames_setTop' g h.top, X.tail] at hend
  cases r with
  | inl v =>
    have q4 : o = .returned (v.map (cv C)) := q4
    subst q4
    obtain ⟨T', X', hW', hB, rfl⟩ := X.outOf hg hdg hend e1 e2
    refine ⟨.inl v, S', I', J', T', Lc, q1, ?_, ?_, X', e3, hsteps⟩
    · exact q2
    · exact q3
  | inr ci =>
    obtain ⟨k, g1, g2, rfl⟩ := q4
    obtain ⟨T', X', hW', hB, rfl⟩ := X.outOfThrown hg hend e1 e2
    refine ⟨.inr ci, S', I', J', T', Lc, q1, ?_, ?_, X', e3, k, g1, g2, hsteps⟩
    · rw [Stand.throwing_heap] at q2
      exact q2
    · exact ⟨by have := q3.1; rw [Stand.throwing_vm] at this; exact this, by have := q3.2; rw [Stand.throwing_heap] at this; exact this⟩
end Run
end
section
/-! ===== CALL ROWS ===== -/
/-- a throw under way: the frame g, the thrown object k over it -/
def VT (C : CT) (l : Launch) (K : KT) (R : RT) (Po : PoT) (pc : Nat) (L : LT) (st : List Value) (S : ShT) (I : DI) (J : DJ) (u : Nat × Nat) (k : Nat) : Prop :=
  ∀ (p : Program) (e : Env) (s : State) (m : MethodId) (args : Array Value) (below : List Frame) (meth : Method) (c : Code), Iv C l K p s m meth c →
    ∀ (T : State) (ls : Array Slot) (locs : List Loc), MR C S I J T.heap → lv_has ls K.2.2.2.2.1 (lC C L) → va_S (AX C) s.heap T.heap locs → u.1 ≤ R.2.1 → u.2 ≤ R.2.2 → Stand p l e (RM R) s m args below meth c T locs u.1 u.2 →
    ∃ t, Steps p.tables e below ((T.setTop (F0 m pc ls (st.map (cv C)))).pushFrame (.throwing (c0 C + k))) t ∧ ZX C R Po below s t
/-- a call site: the card, the links; n: how many parameters -/
def CsV (own : String) (idx : Nat) (K : KT) (y : MethodName) (n : Nat) : Prop := Cd K y ∧ Wd (.methodLink own idx y) ∧ Wd (.instanceMethod y) ∧ Wd (.selects y.cls y y) ∧ (parseMethodDescriptor y.desc).map (fun d => d.parameters.length) = some n
def CsS (own : String) (idx : Nat) (K : KT) (y : MethodName) (n : Nat) : Prop := Cd K y ∧ Wd (.methodLink own idx y) ∧ Wd (.static y) ∧ (parseMethodDescriptor y.desc).map (fun d => d.parameters.length) = some n
def CsN (own : String) (idx : Nat) (K : KT) (y : MethodName) (n : Nat) : Prop := Cd K y ∧ (∃ host, Cond.methodLinkNest own idx y host ∈ lw_tbl) ∧ Wd (.static y) ∧ (parseMethodDescriptor y.desc).map (fun d => d.parameters.length) = some n
def CsI (own : String) (idx : Nat) (K : KT) (y : MethodName) (n : Nat) : Prop := Cd K y ∧ (Wd (.methodLink own idx y) ∨ ∃ host, Cond.methodLinkNest own idx y host ∈ lw_tbl) ∧ Wd (.instanceMethod y) ∧ K.2.2.2.1 = [] ∧ K.2.2.2.2.2 = none ∧ y.name = "<init>" ∧ (parseMethodDescriptor y.desc).map (fun d => d.parameters.length) = some n
theorem nest_at {C : CT} {l : Launch} (hC : OKC C l) {own : String} {idx : Nat} {y : MethodName} {host : String} (h : Cond.methodLinkNest own idx y host ∈ lw_tbl) {U : State} (hW : (cS C).WarmedH U.vm) (a : Array Value) : (Cond.methodLinkNest own idx y host).before a U = true :=
  va_Nw.use rfl (va_Nw.warmM hW (va_Nw.of rfl (hC.2.1 _ h)))
theorem par_len {y : MethodName} {n : Nat} {as : List Value} (h : (parseMethodDescriptor y.desc).map (fun d => d.parameters.length) = some n) (ha : as.length = n) : ∀ sig, parseMethodDescriptor y.desc = some sig → as.length = sig.parameters.length := by
  intro sig hs
  rw [hs] at h
  exact ha.trans (Option.some.inj h).symm
section Rows
variable {C : CT} {l : Launch} {K K' : KT} {R R' : RT} {Po Po' : PoT} {pc pc' : Nat} {L L' : LT} {st stk : List Value} {S S' : ShT} {I I' : DI} {J J' : DJ} {u : Nat × Nat} {y : MethodName} {as : List Value}
/-- behind the callee's run -/
theorem v_back {p : Program} {e : Env} {s : State} {m : MethodId} {args : Array Value} {below : List Frame} {meth : Method} {c : Code} {T : State} {locs : List Loc} {ls : Array Slot} (hI : Iv C l K p s m meth c) (hL : lv_has ls K.2.2.2.2.1 (lC C L)) (hS : va_S (AX C) s.heap T.heap locs) (hK' : Cd K' y) (hSp : Sp C l K' y R' as S I J Po') (hM : MR C S I J T.heap)
    {vm₁ : Vm} (X₁ : Stand p l e (RM R) s m args below meth c (T.setVm vm₁) locs u.1 u.2) {mk : MethodId} (hn : (T.setVm vm₁).methodNamed? y = some mk) {ig : Instr} (hdg : decode K.1 pc = .ok (ig, 3)) (hw : (st.map fun v => v.category).sum ≤ 8) (hfr : R'.1 + 1 ≤ R.1) (hu : u.1 + R'.2.1 ≤ R.2.1 ∧ u.2 + R'.2.2 ≤ R.2.2) (hp : pc + 3 = pc')
    (kk : ∀ (v : Option Value) (S' : ShT) (I' : DI) (J' : DJ), Po' (.inl v) S' I' J' → V C l K R Po pc' L (v.toList ++ st) S' I' J' (u.1 + R'.2.1, u.2 + R'.2.2))
    (kt : ∀ (ci k : Nat) (S' : ShT) (I' : DI) (J' : DJ), Po' (.inr ci) S' I' J' → S'.1 = k + 1 → (S'.2.1 k).1 = ci → VT C l K R Po pc L st S' I' J' (u.1 + R'.2.1, u.2 + R'.2.2) k)
    (hstep : ∀ target, Steps p.tables e below (doInvoke e ((T.setVm vm₁).setTop (F0 m pc ls (st.map (cv C)))) [] mk (as.map (cv C)).toArray).1 target → Steps p.tables e below (T.setTop (F0 m pc ls (stk.map (cv C)))) target) :
    ∃ t, Steps p.tables e below (T.setTop (F0 m pc ls (stk.map (cv C)))) t ∧ ZX C R Po below s t := by
  obtain ⟨hC, hx, hb, hr, hml, hown, hlk, hh, hG, ⟨S0, I0, J0, hM0⟩, hnm⟩ := id hI
  subst hp
  have hG1 : GG C (T.setVm vm₁) := hG.on hS hM0.z rfl X₁.warmed
  obtain ⟨r, S1, I1, J1, T', Lc, q1, q2, q3, X', q5, q6⟩ := Sp.run X₁ hC hK' hSp (show MR C S I J (T.setVm vm₁).heap from hM) hG1 hn (g := F0 m pc ls (st.map (cv C))) rfl (by rw [hml]; exact hL.1) (by rw [hb]; exact hdg) (lv_room (by
    have : ((st.map (cv C)).map fun v => v.category) = st.map fun v => v.category := by
      rw [List.map_map]
      congr 1
      funext v
      exact cv_cat C v
    show ((st.map (cv C)).map fun v => v.category).sum ≤ 8
    rw [this]
    exact hw)) hfr hu.1 hu.2
  have hS' : va_S (AX C) s.heap T'.heap (locs ++ Lc) := ⟨X'.same.2.1, fun q _ h2 => by rw [q3.2 q (Nat.not_le.mp h2), hG.2 q (Nat.not_le.mp h2)], fun z hz => by
    rcases List.mem_append.mp hz with h | h
    · exact hS.2.2 z h
    · exact q5 z h⟩
  cases r with
  | inl v =>
    have w := kk v S1 I1 J1 q1 p e s m args below meth c hI T'.heap ls (locs ++ Lc) q2 hL hS' hu.1 hu.2 T' rfl X'
    obtain ⟨t, a1, b1⟩ := w
    refine ⟨t, hstep _ (q6.trans ?_), b1⟩
    have e9 : (v.toList ++ st).map (cv C) = (v.map (cv C)).toList ++ st.map (cv C) := by cases v <;> rfl
    rw [e9] at a1
    exact a1
  | inr ci =>
    obtain ⟨k, g1, g2, g3⟩ := q6
    obtain ⟨t, a1, b1⟩ := kt ci k S1 I1 J1 q1 g1 g2 p e s m args below meth c hI T' ls (locs ++ Lc) q2 hL hS' hu.1 hu.2 X'
    exact ⟨t, hstep _ (g3.trans a1), b1⟩
theorem v_callV {b ci idx n : Nat} (hd : decode K.1 pc = .ok (.invokevirtual idx, 3)) (hk : CsV K.2.1 idx K' y n) (hSp : Sp C l K' y R' (.ref b :: as) S I J Po') (hb0 : isO S b ci) (hc : ci < 12) (hcy : kN ci = y.cls) (hn : as.length = n) (hst : as.reverse ++ .ref b :: st = stk) (hw : (st.map fun v => v.category).sum ≤ 8) (hfr : R'.1 + 1 ≤ R.1) (hu : u.1 + R'.2.1 ≤ R.2.1 ∧ u.2 + R'.2.2 ≤ R.2.2) (hp : pc + 3 = pc')
    (kk : ∀ (v : Option Value) (S' : ShT) (I' : DI) (J' : DJ), Po' (.inl v) S' I' J' → V C l K R Po pc' L (v.toList ++ st) S' I' J' (u.1 + R'.2.1, u.2 + R'.2.2))
    (kt : ∀ (ci k : Nat) (S' : ShT) (I' : DI) (J' : DJ), Po' (.inr ci) S' I' J' → S'.1 = k + 1 → (S'.2.1 k).1 = ci → VT C l K R Po pc L st S' I' J' (u.1 + R'.2.1, u.2 + R'.2.2) k) : V C l K R Po pc L stk S I J u := by
  intro p e s m args below meth c hI H ls locs hM hL hS h1 h2 T hT X
  subst hT
  obtain ⟨hC, hx, hb, hr, hml, hown, hlk, hh, hG, ⟨S0, I0, J0, hM0⟩, hnm⟩ := id hI
  obtain ⟨k1, k2, k3, k4, k5⟩ := hk
  obtain ⟨-, -, -, hy, w5, -, -⟩ := id k1
  obtain ⟨mk, methM, hnamed, hmethM, hstM, habM⟩ := Cond.instanceMethod_spec (k3.at hC hG.1 args)
  obtain ⟨methM', cM, hmethM', -, -, -, -, -, -, hsigM⟩ := cwd_spec hnamed (w5.at hC hG.1 args)
  cases hmethM.symm.trans hmethM'
  have hPv := hM.2 b hb0.1
  rw [cel_o hb0.2 hc] at hPv
  obtain ⟨r', hr', cellV, g1, g2, g3, -⟩ := hPv
  have hcls : s.vm.findClass y.cls = some cellV.cls := by rw [← hcy, g2]; exact ((hG.K hC).1 ci _ (vw_at hc)).2.1
  obtain ⟨c2, r2, m2, q1, q2, q3, q4, kP, hkP, hkPi⟩ := Cond.selects_spec (k4.at hC hG.1 args)
  cases hcls.symm.trans q1
  cases (State.methodFound?_of_named hnamed hy).symm.trans q2
  cases hnamed.symm.trans q3
  have hselP : selectMethod e.platform s.vm cellV.cls mk = .method mk := by rw [Launch.admits_selectMethod X.admits]; exact q4
  obtain ⟨vm₁, X₁, hstep₁⟩ := X.invokevirtual hx hown (k2.at hC hG.1 args) hnamed hmethM hstM hkP hkPi hy (a := c0 C + b) (cell := cellV) g1
    (fun z h => by rw [g3] at h; cases h) hselP hmethM habM hkP hkPi (g := F0 m pc ls (stk.map (cv C))) rfl (argsL := as.map (cv C)) (rest := st.map (cv C)) (by rw [List.length_map]; exact par_len k5 hn _ hsigM) (by rw [← hst, List.map_append, List.map_reverse]; rfl) (by rw [hb]; exact hd)
  exact v_back (as := .ref b :: as) hI hL hS k1 hSp hM X₁ (X₁.named hnamed) hd hw hfr hu hp kk kt (fun target h => hstep₁ _ fun acts => by rw [doInvoke_state]; exact h)
theorem v_callS {idx n : Nat} (hd : decode K.1 pc = .ok (.invokestatic idx, 3)) (hk : CsS K.2.1 idx K' y n) (hSp : Sp C l K' y R' as S I J Po') (hn : as.length = n) (hst : as.reverse ++ st = stk) (hw : (st.map fun v => v.category).sum ≤ 8) (hfr : R'.1 + 1 ≤ R.1) (hu : u.1 + R'.2.1 ≤ R.2.1 ∧ u.2 + R'.2.2 ≤ R.2.2) (hp : pc + 3 = pc')
    (kk : ∀ (v : Option Value) (S' : ShT) (I' : DI) (J' : DJ), Po' (.inl v) S' I' J' → V C l K R Po pc' L (v.toList ++ st) S' I' J' (u.1 + R'.2.1, u.2 + R'.2.2))
    (kt : ∀ (ci k : Nat) (S' : ShT) (I' : DI) (J' : DJ), Po' (.inr ci) S' I' J' → S'.1 = k + 1 → (S'.2.1 k).1 = ci → VT C l K R Po pc L st S' I' J' (u.1 + R'.2.1, u.2 + R'.2.2) k) : V C l K R Po pc L stk S I J u := by
  intro p e s m args below meth c hI H ls locs hM hL hS h1 h2 T hT X
  subst hT
  obtain ⟨hC, hx, hb, hr, hml, hown, hlk, hh, hG, ⟨S0, I0, J0, hM0⟩, hnm⟩ := id hI
  obtain ⟨k1, k2, k3, k5⟩ := hk
  obtain ⟨-, -, -, hy, w5, w6, -⟩ := id k1
  obtain ⟨mk, hnamed⟩ := cwd_named (w5.at hC hG.1 args)
  obtain ⟨methM, cM, hmethM, -, -, -, -, -, -, hsigM⟩ := cwd_spec hnamed (w5.at hC hG.1 args)
  have hstatic : methM.isStatic = true := Cond.static_spec hnamed hmethM (k3.at hC hG.1 args)
  obtain ⟨kP, hkP, -⟩ := className_of_methodNamed hnamed
  have hinitP : kP.init = .initialized := Cond.initialized_spec (findClass_of_methodNamed hnamed) hkP (w6.at hC hG.1 args)
  obtain ⟨vm₁, X₁, hstep₁⟩ := X.invokestatic hx hown (k2.at hC hG.1 args) hnamed hmethM hstatic hkP hinitP hy (g := F0 m pc ls (stk.map (cv C))) rfl (argsL := as.map (cv C)) (rest := st.map (cv C)) (by rw [List.length_map]; exact par_len k5 hn _ hsigM) (by rw [← hst, List.map_append, List.map_reverse]) (by rw [hb]; exact hd)
  exact v_back (as := as) hI hL hS k1 hSp hM X₁ (X₁.named hnamed) hd hw hfr hu hp kk kt (fun target h => hstep₁ _ fun acts => by rw [doInvoke_state]; exact h)
theorem v_callN {idx n : Nat} (hd : decode K.1 pc = .ok (.invokestatic idx, 3)) (hk : CsN K.2.1 idx K' y n) (hSp : Sp C l K' y R' as S I J Po') (hn : as.length = n) (hst : as.reverse ++ st = stk) (hw : (st.map fun v => v.category).sum ≤ 8) (hfr : R'.1 + 1 ≤ R.1) (hu : u.1 + R'.2.1 ≤ R.2.1 ∧ u.2 + R'.2.2 ≤ R.2.2) (hp : pc + 3 = pc')
    (kk : ∀ (v : Option Value) (S' : ShT) (I' : DI) (J' : DJ), Po' (.inl v) S' I' J' → V C l K R Po pc' L (v.toList ++ st) S' I' J' (u.1 + R'.2.1, u.2 + R'.2.2))
    (kt : ∀ (ci k : Nat) (S' : ShT) (I' : DI) (J' : DJ), Po' (.inr ci) S' I' J' → S'.1 = k + 1 → (S'.2.1 k).1 = ci → VT C l K R Po pc L st S' I' J' (u.1 + R'.2.1, u.2 + R'.2.2) k) : V C l K R Po pc L stk S I J u := by
  intro p e s m args below meth c hI H ls locs hM hL hS h1 h2 T hT X
  subst hT
  obtain ⟨hC, hx, hb, hr, hml, hown, hlk, hh, hG, ⟨S0, I0, J0, hM0⟩, hnm⟩ := id hI
  obtain ⟨k1, ⟨host, k2⟩, k3, k5⟩ := hk
  obtain ⟨-, -, -, hy, w5, w6, -⟩ := id k1
  obtain ⟨mk, hnamed⟩ := cwd_named (w5.at hC hG.1 args)
  obtain ⟨methM, cM, hmethM, -, -, -, -, -, -, hsigM⟩ := cwd_spec hnamed (w5.at hC hG.1 args)
  have hstatic : methM.isStatic = true := Cond.static_spec hnamed hmethM (k3.at hC hG.1 args)
  obtain ⟨kP, hkP, -⟩ := className_of_methodNamed hnamed
  have hinitP : kP.init = .initialized := Cond.initialized_spec (findClass_of_methodNamed hnamed) hkP (w6.at hC hG.1 args)
  obtain ⟨vm₁, X₁, hstep₁⟩ := X.invokestaticNest hx hown (nest_at hC k2 hG.1 args) hnamed hmethM hstatic hkP hinitP hy (g := F0 m pc ls (stk.map (cv C))) rfl (argsL := as.map (cv C)) (rest := st.map (cv C)) (by rw [List.length_map]; exact par_len k5 hn _ hsigM) (by rw [← hst, List.map_append, List.map_reverse]) (by rw [hb]; exact hd)
  exact v_back (as := as) hI hL hS k1 hSp hM X₁ (X₁.named hnamed) hd hw hfr hu hp kk kt (fun target h => hstep₁ _ fun acts => by rw [doInvoke_state]; exact h)
theorem v_callI {b idx n : Nat} (hd : decode K.1 pc = .ok (.invokespecial idx, 3)) (hk : CsI K.2.1 idx K' y n) (hSp : Sp C l K' y R' (.ref b :: as) S I J Po') (hn : as.length = n) (hst : as.reverse ++ .ref b :: st = stk) (hw : (st.map fun v => v.category).sum ≤ 8) (hfr : R'.1 + 1 ≤ R.1) (hu : u.1 + R'.2.1 ≤ R.2.1 ∧ u.2 + R'.2.2 ≤ R.2.2) (hp : pc + 3 = pc')
    (kk : ∀ (v : Option Value) (S' : ShT) (I' : DI) (J' : DJ), Po' (.inl v) S' I' J' → V C l K R Po pc' L (v.toList ++ st) S' I' J' (u.1 + R'.2.1, u.2 + R'.2.2))
    (kt : ∀ (ci k : Nat) (S' : ShT) (I' : DI) (J' : DJ), Po' (.inr ci) S' I' J' → S'.1 = k + 1 → (S'.2.1 k).1 = ci → VT C l K R Po pc L st S' I' J' (u.1 + R'.2.1, u.2 + R'.2.2) k) : V C l K R Po pc L stk S I J u := by
  intro p e s m args below meth c hI H ls locs hM hL hS h1 h2 T hT X
  subst hT
  obtain ⟨hC, hx, hb, hr, hml, hown, hlk, hh, hG, ⟨S0, I0, J0, hM0⟩, hnm⟩ := id hI
  obtain ⟨k1, k2, k3, k4, k4b, hy1, k5⟩ := hk
  obtain ⟨-, -, -, hy, w5, w6, -⟩ := id k1
  have hpl : e.platform.magicAccessors = ({} : Platform).magicAccessors := by rw [X.admits.platform]
  have hcode : (Cond.code y K'.1 K'.2.2.2.2.1 none).before args s = true := by
    have h := w5.at hC hG.1 args
    unfold cwd at h
    rw [k4, k4b] at h
    exact h
  have hlenA : ∀ sig, parseMethodDescriptor y.desc = some sig → (as.map (cv C)).length = sig.parameters.length := by
    intro sig h
    rw [List.length_map]
    exact par_len k5 hn sig h
  have hstk : (F0 m pc ls (stk.map (cv C))).stack = (as.map (cv C)).reverse ++ .ref (c0 C + b) :: st.map (cv C) := by
    show stk.map (cv C) = _
    rw [← hst, List.map_append, List.map_reverse]
    rfl
  rcases k2 with k2 | ⟨host, k2⟩
  · obtain ⟨mk, methM, cM, kP, vm₁, hnamed, hmethM, hcodeM, -, hlocalsM, -, hkP, -, hW₁, hstep₁⟩ := Steps.initColdArgs (e := e) X.here hx X.warmed hpl hown hy1 hy (k2.at hC hG.1 args) (k3.at hC hG.1 args) hcode (f := F0 m pc ls (stk.map (cv C))) rfl hlenA hstk (by rw [hb]; exact hd)
    have X₁ := X.noted hW₁
    exact v_back (as := .ref b :: as) hI hL hS k1 hSp hM X₁ (X₁.named hnamed) hd hw hfr hu hp kk kt (fun target h => hstep₁ _ fun acts => by rw [doInvoke_state]; exact h)
  · obtain ⟨mk, methM, cM, kP, vm₁, hnamed, hmethM, hcodeM, -, hlocalsM, -, hkP, -, hW₁, hstep₁⟩ := Steps.initColdArgsNest (e := e) X.here hx X.warmed hpl hown hy1 hy (nest_at hC k2 hG.1 args) (k3.at hC hG.1 args) hcode (f := F0 m pc ls (stk.map (cv C))) rfl hlenA hstk (by rw [hb]; exact hd)
    have X₁ := X.noted hW₁
    exact v_back (as := .ref b :: as) hI hL hS k1 hSp hM X₁ (X₁.named hnamed) hd hw hfr hu hp kk kt (fun target h => hstep₁ _ fun acts => by rw [doInvoke_state]; exact h)
end Rows
end
section
/-! ===== ROWS THAT MAKE CELLS ===== -/
def zf {α : Type} (f : Nat → Nat → α) (n : Nat) (z : α) : Nat → Nat → α := fun b => if n ≤ b then fun _ => z else f b
def ad1 (S : ShT) (k : Nat × Nat) : ShT := (S.1 + 1, fun b => if b = S.1 then k else S.2.1 b, zf S.2.2 S.1 none)
def ad2 (S : ShT) (N M : Nat) : ShT := (S.1 + 1 + N, fun b => if b = S.1 then (37, N) else if S.1 < b then (32, M) else S.2.1 b, fun b j => if b = S.1 then (if j < N then some (S.1 + 1 + j) else none) else zf S.2.2 S.1 none b j)
theorem zf_lt {α : Type} {f : Nat → Nat → α} {n : Nat} {z : α} {b : Nat} (h : b < n) : zf f n z b = f b := by
  unfold zf
  rw [if_neg (by omega)]
theorem zf_ge {α : Type} {f : Nat → Nat → α} {n : Nat} {z : α} {b j : Nat} (h : n ≤ b) : zf f n z b j = z := by
  unfold zf
  rw [if_pos h]
theorem MR.grow {C : CT} {S S' : ShT} {I I' : DI} {J J' : DJ} {H H' : Heap} (h : MR C S I J H) (hz : H'.size = c0 C + S'.1) (ho : ∀ q, q < H.size → H'[q]? = H[q]?) (hk : ∀ k, k < S.1 → S'.2.1 k = S.2.1 k ∧ S'.2.2 k = S.2.2 k ∧ I' k = I k ∧ J' k = J k) (hn : ∀ k, S.1 ≤ k → k < S'.1 → va_at (cD C) vwCl (c0 C + k, cel C S' I' J' k) H') : MR C S' I' J' H' := by
  refine ⟨hz, fun k hk' => ?_⟩
  by_cases hl : k < S.1
  · obtain ⟨g1, g2, g3, g4⟩ := hk k hl
    rw [cel_eq g1 g2 g3 g4]
    exact (h.2 k hl).kept (ho _ (by rw [h.1]; show c0 C + k < c0 C + S.1; omega))
  · exact hn k (by omega) hk'
theorem va_S.grow {A : Nat → Prop} {H0 H H1 : Heap} {locs : List Loc} (h : va_S A H0 H locs) (z : H.size ≤ H1.size) (o : ∀ q, q < H.size → H1[q]? = H[q]?) : va_S A H0 H1 locs :=
  ⟨Nat.le_trans h.1 z, fun x h1 h2 => (o x (Nat.lt_of_lt_of_le h1 h.1)).trans (h.2.1 x h1 h2), h.2.2⟩
theorem fV_new {C : CT} {S : ShT} {I : DI} {J : DJ} {n j : Nat} (h1 : S.2.2 n j = none) (h2 : I n j = 0) (h3 : J n j = 0) {t : FieldType} (ht : t = .int ∨ t = .boolean ∨ t = .long ∨ isR t = true) : fV C S I J n j t = defaultValue t := by
  rcases ht with rfl | rfl | rfl | h
  · simp [fV, h2, defaultValue]
  · simp [fV, h2, defaultValue]
  · simp [fV, h3, defaultValue]
  · cases t <;> first | (cases h; done) | (simp [fV, fR, h1, defaultValue])
def okT (t : FieldType) : Bool := match t with
  | .int => true
  | .boolean => true
  | .long => true
  | .object _ => true
  | .array _ => true
  | _ => false
theorem okT_s {t : FieldType} (h : okT t = true) : t = .int ∨ t = .boolean ∨ t = .long ∨ isR t = true := by
  cases t <;> simp_all [okT, isR]
theorem ky_ok : ∀ c, c < 12 → ∀ k, k < kF c → okT (kY c k) = true := by decide +kernel
section Rows
variable {C : CT} {l : Launch} {K : KT} {R : RT} {Po : PoT} {pc pc' : Nat} {L L' : LT} {st : List Value} {S S' : ShT} {I I' : DI} {J J' : DJ} {u : Nat × Nat}
theorem v_new {ci idx N : Nat} (hd : decode K.1 pc = .ok (.new idx, 3)) (hc : ci < 12) (hw1 : Wd (.classLink K.2.1 idx (kN ci))) (hw2 : Wd (.instantiable (kN ci) N)) (hw3 : Wd (.initialized (kN ci))) (hu : u.1 + 1 ≤ R.2.1 ∧ u.2 + N ≤ R.2.2) (hp : pc + 3 = pc')
    (kk : V C l K R Po pc' L (.ref S.1 :: st) (ad1 S (ci, 0)) (zf I S.1 0) (zf J S.1 0) (u.1 + 1, u.2 + N)) : V C l K R Po pc L st S I J u := by
  intro p e s m args below meth c hI H ls locs hM hL hS h1 h2
  subst hp
  obtain ⟨hC, hx, hb, hr, hml, hown, hlk, hh, hG, ⟨S0, I0, J0, hM0⟩, hnm⟩ := id hI
  have hKn := (hG.K hC).1 ci _ (vw_at hc)
  refine W.newcK hx hb hown (hw1.at hC hG.1 args) (hw2.at hC hG.1 args) (hw3.at hC hG.1 args) rfl hd hu.1 hu.2 hKn.2.1 hM.1 fun H1 kC hkC e1 z1 o1 => ?_
  have o2 : ∀ q, q < H.size → H1[q]? = H[q]? := fun q hq => o1 q (by rw [← hM.1]; exact hq)
  refine kk p e s m args below meth c hI H1 ls locs (hM.grow (by rw [z1]; rfl) o2 (fun k hk => ⟨?_, zf_lt hk, zf_lt hk, zf_lt hk⟩) (fun k g1 g2 => ?_)) hL (hS.grow (by rw [z1, hM.1]; exact Nat.le_succ _) o2) hu.1 hu.2
  · show (if k = S.1 then _ else _) = _
    rw [if_neg (by omega)]
  · have hk : k = S.1 := by have : k < S.1 + 1 := g2; omega
    subst hk
    rw [cel_o (ci := ci) (by show (if S.1 = S.1 then _ else _ : Nat × Nat).1 = ci; rw [if_pos rfl]) hc]
    refine ⟨_, vw_at hc, (u_born (kY ci) (hG.lays hC ci args) (fun w h => h) hKn hkC e1 (ky_all ci)).to fun j hj => ?_⟩
    rw [fL_V hj, fV_new (zf_ge (Nat.le_refl _)) (zf_ge (Nat.le_refl _)) (zf_ge (Nat.le_refl _)) (okT_s (ky_ok ci hc j hj))]
theorem v_newa {t N : Nat} {atype : ArrayType} {x : Int32} (hd : decode K.1 pc = .ok (.newarray atype, 2)) (ht : (t = 32 ∧ atype = .int) ∨ (t = 33 ∧ atype = .boolean) ∨ (t = 34 ∧ atype = .long)) (hw : Wd (.arrayClass (tgT t))) (hx : x = nI N) (hN : N ≤ 1000) (hu : u.1 + 1 ≤ R.2.1 ∧ u.2 + N ≤ R.2.2) (hp : pc + 2 = pc')
    (kk : V C l K R Po pc' L (.ref S.1 :: st) (ad1 S (t, N)) (zf I S.1 0) (zf J S.1 0) (u.1 + 1, u.2 + N)) : V C l K R Po pc L (.int x :: st) S I J u := by
  intro p e s m args below meth c hI H ls locs hM hL hS h1 h2
  subst hp
  obtain ⟨hC, hx0, hb, hr, hml, hown, hlk, hh, hG, ⟨S0, I0, J0, hM0⟩, hnm⟩ := id hI
  have hty : newarray.typeOf atype = tgT t := by rcases ht with ⟨rfl, rfl⟩ | ⟨rfl, rfl⟩ | ⟨rfl, rfl⟩ <;> rfl
  have ht32 : 32 ≤ t := by omega
  have hRA : s.vm.findClass ("[" ++ (tgT t).toString) = some (cA C t) := by
    have h := (hG.arr hC ht32).2
    rcases ht with ⟨rfl, rfl⟩ | ⟨rfl, rfl⟩ | ⟨rfl, rfl⟩ <;> exact h
  refine va_newaK hx0 hb (atype := atype) (by rw [hty]; exact hw.at hC hG.1 args) rfl hd rfl (by rw [hx]; exact nI_pos (by omega)) (by rw [hx]; exact nI_clamp (by omega)) (by rcases ht with ⟨rfl, rfl⟩ | ⟨rfl, rfl⟩ | ⟨rfl, rfl⟩ <;> simp only [newarray.typeOf, componentBytes] <;> omega) hu.1 hu.2 hM.1 fun H1 cA1 e1 z1 o1 a1 a2 => ?_
  rw [hty] at a2 e1
  cases hRA.symm.trans a2
  have o2 : ∀ q, q < H.size → H1[q]? = H[q]? := fun q hq => o1 q (by rw [← hM.1]; exact hq)
  refine kk p e s m args below meth c hI H1 ls locs (hM.grow (by rw [z1]; rfl) o2 (fun k hk => ⟨?_, zf_lt hk, zf_lt hk, zf_lt hk⟩) (fun k g1 g2 => ?_)) hL (hS.grow (by rw [z1, hM.1]; exact Nat.le_succ _) o2) hu.1 hu.2
  · show (if k = S.1 then _ else _) = _
    rw [if_neg (by omega)]
  · have hk : k = S.1 := by have : k < S.1 + 1 := g2; omega
    subst hk
    rw [cel_a (t := t) (n := N) (by show (if S.1 = S.1 then _ else _ : Nat × Nat) = _; rw [if_pos rfl]) ht32]
    show H1[c0 C + S.1]? = some (vp_cell _ _)
    rw [e1]
    rcases ht with ⟨rfl, rfl⟩ | ⟨rfl, rfl⟩ | ⟨rfl, rfl⟩
    · rw [vc32]
      congr 2
      funext j
      rw [zf_ge (Nat.le_refl _)]
      rfl
    · rw [vc33]
      congr 2
      funext j
      rw [zf_ge (Nat.le_refl _)]
      rfl
    · rw [vc34]
      congr 2
      funext j
      rw [zf_ge (Nat.le_refl _)]
      rfl
theorem v_anew {t N idx ci : Nat} {x : Int32} (hd : decode K.1 pc = .ok (.anewarray idx, 3)) (ht : 35 ≤ t) (htc : tgT t = .object (kN ci)) (hw : Wd (.classLink K.2.1 idx (kN ci))) (hw2 : Cond.arrayOver (.object (kN ci)) ∈ lw_tbl) (hx : x = nI N) (hN : N ≤ 1000) (hu : u.1 + 1 ≤ R.2.1 ∧ u.2 + N ≤ R.2.2) (hp : pc + 3 = pc')
    (kk : V C l K R Po pc' L (.ref S.1 :: st) (ad1 S (t, N)) (zf I S.1 0) (zf J S.1 0) (u.1 + 1, u.2 + N)) : V C l K R Po pc L (.int x :: st) S I J u := by
  intro p e s m args below meth c hI H ls locs hM hL hS h1 h2
  subst hp
  obtain ⟨hC, hx0, hb, hr, hml, hown, hlk, hh, hG, ⟨S0, I0, J0, hM0⟩, hnm⟩ := id hI
  have hcl : x.toNatClampNeg = N := by rw [hx]; exact nI_clamp (by omega)
  have hRA := (hG.arr hC (t := t) (by omega)).2
  rw [htc] at hRA
  obtain ⟨-, -, -, -, -, hfc⟩ := hRA
  refine W.anew hx0 hb hown (hw.at hC hG.1 args) (va_AO.use (A := args) (va_AO.moved hG.1.alike (va_AO.of (hC.2.1 _ hw2)))) rfl hd rfl (by rw [hx]; exact nI_pos (by omega)) (by rw [hcl]; omega) hu.1 (by rw [hcl]; exact hu.2) fun cA1 kA comp f1 f2 f3 f4 => ?_
  cases hfc.symm.trans f1
  rw [hcl, hM.1]
  generalize hH1 : H.push ({ cls := cA C t, slots := Array.replicate N .null, vm := .none } : Cell) = H1
  have z1 : H1.size = H.size + 1 := by rw [← hH1, Array.size_push]
  have e1 : H1[H.size]? = some (arrV (cA C t) N (fun _ => .null)) := by rw [← hH1, Array.getElem?_push_size, ← arrV_new]
  have o2 : ∀ q : Nat, q < H.size → H1[q]? = H[q]? := fun q hq => by rw [← hH1, Array.getElem?_push, if_neg (Nat.ne_of_lt hq)]
  refine kk p e s m args below meth c hI H1 ls locs (hM.grow (by rw [z1, hM.1]; rfl) o2 (fun k hk => ⟨?_, zf_lt hk, zf_lt hk, zf_lt hk⟩) (fun k g1 g2 => ?_)) hL (hS.grow (by rw [z1]; exact Nat.le_succ _) o2) hu.1 hu.2
  · show (if k = S.1 then _ else _) = _
    rw [if_neg (by omega)]
  · have hk : k = S.1 := by have : k < S.1 + 1 := g2; omega
    subst hk
    rw [cel_a (t := t) (n := N) (by show (if S.1 = S.1 then _ else _ : Nat × Nat) = _; rw [if_pos rfl]) (by omega)]
    show H1[c0 C + S.1]? = some (vp_cell _ _)
    rw [← hM.1, e1, vcq ht]
    congr 2
    funext j
    show _ = va_rf ((zf S.2.2 S.1 none S.1 j).map _)
    rw [zf_ge (Nat.le_refl _)]
    rfl
/-- Object's constructor -/
theorem v_obj {idx a : Nat} (hd : decode K.1 pc = .ok (.invokespecial idx, 3)) (hw : Wd (.methodLink K.2.1 idx objectInit)) (hw2 : Wd (.instanceMethod objectInit)) (hw3 : Wd (.code objectInit ⟨#[0xb1]⟩ 1 none)) (hR : 1 ≤ R.1) (hst : (st.map fun v => v.category).sum ≤ 8) (hp : pc + 3 = pc') (kk : V C l K R Po pc' L st S I J u) : V C l K R Po pc L (.ref a :: st) S I J u := by
  intro p e s m args below meth c hI H ls locs hM hL hS h1 h2
  subst hp
  obtain ⟨hC, hx, hb, hr, hml, hown, hlk, hh, hG, ⟨S0, I0, J0, hM0⟩, hnm⟩ := id hI
  have hst2 : ((st.map (cv C)).map fun v => v.category).sum ≤ 8 := by
    have : ((st.map (cv C)).map fun v => v.category) = st.map fun v => v.category := by
      rw [List.map_map]
      congr 1
      funext v
      exact cv_cat C v
    rw [this]
    exact hst
  have hrm := lv_room (m := m) (pc := pc) (ls := ls) (rest := (.ref a :: st).map (cv C)) hst2
  refine W.objInit hx hb hown (hw.at hC hG.1 args) (hw2.at hC hG.1 args) (hw3.at hC hG.1 args) rfl (by rw [hml]; exact hL.1) rfl hd hR (by show _ ≤ 36 * R.1; omega) ?_
  exact kk p e s m args below meth c hI H ls locs hM hL hS h1 h2
end Rows
end
section
/-! ===== new int[N][M] ===== -/
theorem ao_spec {a : Array Value} {s : State} {t : FieldType} (h : (Cond.arrayOver (.array t)).before a s = true) :
    ∃ comp c k, s.vm.findClass (FieldType.array t).toString = some comp ∧ (s.vm.classes.findIdx? fun (x : Class) => match x.kind with | .array component _ => component == comp | _ => false) = some c ∧ s.vm.classes[c]? = some k ∧ k.kind = .array comp (.array t) ∧ s.vm.findClass ("[" ++ (FieldType.array t).toString) = some c := by
  unfold Cond.before Cond.holds at h
  simp only [Cond.value, beq_iff_eq] at h
  cases hc : s.vm.findClass (FieldType.array t).toString with
  | none => simp [hc] at h
  | some comp =>
    cases hi : (s.vm.classes.findIdx? fun (x : Class) => match x.kind with | .array component _ => component == comp | _ => false) with
    | none =>
      rw [hc, Option.bind_some] at h
      have h' := (congrArg (fun o : Option Nat => (o.bind (fun c => (s.vm.classes[c]?).map fun (k : Class) => match k.kind with | .array _ ty => decide (ty = FieldType.array t) && decide (s.vm.findClass ("[" ++ (FieldType.array t).toString) = some c) | _ => false))) hi).symm.trans h
      simp at h'
    | some c =>
      rw [hc, Option.bind_some] at h
      have h' := (congrArg (fun o : Option Nat => (o.bind (fun c => (s.vm.classes[c]?).map fun (k : Class) => match k.kind with | .array _ ty => decide (ty = FieldType.array t) && decide (s.vm.findClass ("[" ++ (FieldType.array t).toString) = some c) | _ => false))) hi).symm.trans h
      simp only [Option.bind_some] at h'
      cases hk : s.vm.classes[c]? with
      | none => simp [hk] at h'
      | some k =>
        rw [hk, Option.map_some] at h'
        have h2 := Option.some.inj h'
        cases hkind : k.kind with
        | array comp' ty =>
          rw [hkind] at h2
          simp only [Bool.and_eq_true, decide_eq_true_eq] at h2
          have hp := Array.findIdx?_eq_some_iff_getElem.mp hi
          obtain ⟨hlt, hp1, -⟩ := hp
          have he : s.vm.classes[c] = k := by
            have := Array.getElem?_eq_getElem hlt
            rw [hk] at this
            exact (Option.some.inj this).symm
          rw [he, hkind] at hp1
          have hcc : comp' = comp := by simpa using hp1
          exact ⟨comp, c, k, rfl, hi, hk, by rw [hkind, hcc, h2.1], h2.2⟩
        | _ => rw [hkind] at h2; simp at h2
theorem ao_moved {a a' : Array Value} {t : FieldType} {u U : State} (hvm : u.vm.Alike U.vm) (h : (Cond.arrayOver (.array t)).before a u = true) : (Cond.arrayOver (.array t)).before a' U = true := by
  obtain ⟨comp, c, k, h1, h2, h3, h4, h5⟩ := ao_spec h
  obtain ⟨k', hk', he⟩ := hvm.2.2 _ _ h3
  have hi : (U.vm.classes.findIdx? fun (x : Class) => match x.kind with | .array component _ => component == comp | _ => false) = some c := by
    have hb := hvm.bare_eq
    have e1 := va_idx_bare U.vm comp
    have e2 := va_idx_bare u.vm comp
    first | rw [hb] at e2 | rw [← hb] at e2
    exact e1.symm.trans (e2.trans h2)
  have hkind : k'.kind = .array comp (.array t) := by rw [he]; exact h4
  have f1 : U.vm.findClass (FieldType.array t).toString = some comp := by rw [hvm.findClass]; exact h1
  have f2 : U.vm.findClass ("[" ++ (FieldType.array t).toString) = some c := by rw [hvm.findClass]; exact h5
  unfold Cond.before Cond.holds
  simp only [Cond.value]
  rw [f1, Option.bind_some]
  refine (congrArg (fun o : Option Nat => (o.bind (fun c => (U.vm.classes[c]?).map fun (k : Class) => match k.kind with | .array _ ty => decide (ty = FieldType.array t) && decide (U.vm.findClass ("[" ++ (FieldType.array t).toString) = some c) | _ => false) == some true)) hi).trans ?_
  simp [hk', hkind, f2]
theorem vr_out (c : ClassId) (N h0 : Nat) : ∀ i : Nat, Jvm.Free.Multi.outerC c N h0 i = arrV c N (fun j => va_rf (if j < i then some (h0 + 1 + j) else none))
  | 0 => by
    show ({ cls := c, slots := Array.replicate N .null, vm := .none } : Cell) = _
    rw [arrV_new]
    refine congrArg (arrV c N) (funext fun j => ?_)
    simp [va_rf]
  | i + 1 => by
    show (Jvm.Free.Multi.outerC c N h0 i).setSlot i (.ref (h0 + 1 + i)) = _
    rw [vr_out c N h0 i, arrV_store]
    refine congrArg (arrV c N) (funext fun j => ?_)
    by_cases e : j = i
    · subst e
      simp [updV, va_rf]
    · by_cases h : j < i
      · simp [updV, e, h, Nat.lt_succ_of_lt h]
      · simp [updV, e, h, show ¬ j < i + 1 by omega]
section Rows
variable {C : CT} {l : Launch} {K : KT} {R : RT} {Po : PoT} {pc pc' : Nat} {L L' : LT} {st : List Value} {S S' : ShT} {I I' : DI} {J J' : DJ} {u : Nat × Nat}
theorem v_mna {N M idx : Nat} {x y : Int32} (hd : decode K.1 pc = .ok (.multianewarray idx 2, 4)) (hw1 : Wd (.classLink K.2.1 idx "[[I")) (hw2 : Cond.arrayOver (.array .int) ∈ lw_tbl) (hw3 : Wd (.arrayClass .int)) (hx : x = nI N) (hy : y = nI M) (hN : N ≤ 1000) (hM1 : M ≤ 1000) (hu : u.1 + (1 + N) ≤ R.2.1 ∧ u.2 + (N + N * M) ≤ R.2.2) (hp : pc + 4 = pc')
    (kk : V C l K R Po pc' L (.ref S.1 :: st) (ad2 S N M) (zf I S.1 0) (zf J S.1 0) (u.1 + 1 + N, u.2 + N + N * M)) : V C l K R Po pc L (.int y :: .int x :: st) S I J u := by
  intro p e s m args below meth c hI H ls locs hM hL hS h1 h2 T hT X
  subst hT
  subst hp
  obtain ⟨hC, hx0, hb, hr, hml, hown, hlk, hh, hG, ⟨S0, I0, J0, hM0⟩, hnm⟩ := id hI
  have cx : x.toNatClampNeg = N := by rw [hx]; exact nI_clamp (by omega)
  have cy : y.toNatClampNeg = M := by rw [hy]; exact nI_clamp (by omega)
  have hRA : s.vm.findClass "[I" = some (cA C 32) := (hG.arr hC (t := 32) (by omega)).2
  have hRA2 : s.vm.findClass "[[I" = some (cA C 37) := (hG.arr hC (t := 37) (by omega)).2
  obtain ⟨vm₁, cA1, comp, -, fA1, fC, hO, -, X', step⟩ := X.multianewarray2F (ty := .int) hx0 hown (hw1.at hC hG.1 args) (ao_moved hG.1.alike (hC.2.1 _ hw2)) (hw3.at hC hG.1 args) (g := F0 m pc ls ((.int y :: .int x :: st).map (cv C))) rfl (by rw [hb]; exact hd) (n := x) (k := y) (rest := st.map (cv C)) rfl (by rw [hx]; exact nI_pos (by omega)) (by rw [hy]; exact nI_pos (by omega)) (by rw [cx]; omega) (by rw [cy]; simp only [componentBytes]; omega) (by rw [cy]; omega) rfl rfl (by rw [cx]; exact hu.1) (by rw [cx, cy]; exact hu.2)
  cases hRA.symm.trans (show s.vm.findClass "[I" = some comp from fC)
  cases hRA2.symm.trans (show s.vm.findClass "[[I" = some cA1 from fA1)
  rw [cx, cy] at X' step
  generalize hF : Jvm.Free.Multi.fill (T.setVm vm₁) (cA C 37) (cA C 32) N M (defaultValue .int) N = F at X' step
  have hTh : (T.setVm vm₁).heap = T.heap := rfl
  obtain ⟨f1, f2, -, -⟩ := Jvm.Free.Multi.fill_facts (T.setVm vm₁) (cA C 37) (cA C 32) N M (defaultValue .int) N
  rw [hF, hTh] at f1 f2
  have hold : ∀ q : Nat, q < T.heap.size → F.heap[q]? = T.heap[q]? := fun q hq => by
    have := Jvm.Free.Multi.fill_old (T.setVm vm₁) (cA C 37) (cA C 32) N M (defaultValue .int) (a := q) (by rw [hTh]; exact hq) N
    rw [hF, hTh] at this
    exact this
  have hrow : ∀ j : Nat, j < N → F.heap[T.heap.size + 1 + j]? = some (arrV (cA C 32) M (fun _ => .int 0)) := fun j hj => by
    have := Jvm.Free.Multi.fill_inner (T.setVm vm₁) (cA C 37) (cA C 32) N M (defaultValue .int) N j hj
    rw [hF, hTh] at this
    rw [this, ← arrV_new]
    rfl
  rw [vr_out] at f2
  have hMR : MR C (ad2 S N M) (zf I S.1 0) (zf J S.1 0) F.heap := by
    refine hM.grow (by rw [f1, hM.1]; show c0 C + S.1 + 1 + N = c0 C + (S.1 + 1 + N); omega) hold (fun k hk => ⟨?_, ?_, zf_lt hk, zf_lt hk⟩) (fun k g1 g2 => ?_)
    · show (if k = S.1 then _ else if S.1 < k then _ else _) = _
      rw [if_neg (by omega), if_neg (by omega)]
    · funext j
      show (if k = S.1 then _ else zf S.2.2 S.1 none k j) = _
      rw [if_neg (by omega), zf_lt hk]
    · have g2 : k < S.1 + 1 + N := g2
      by_cases e0 : k = S.1
      · subst e0
        rw [cel_a (t := 37) (n := N) (by show (if S.1 = S.1 then _ else _ : Nat × Nat) = _; rw [if_pos rfl]) (by omega)]
        show F.heap[c0 C + S.1]? = some (vp_cell _ _)
        rw [← hM.1, f2, vcq (by omega)]
        congr 2
        funext j
        show _ = va_rf ((if S.1 = S.1 then (if j < N then some (S.1 + 1 + j) else none) else _ : Option Nat).map _)
        rw [if_pos rfl]
        by_cases hj : j < N
        · rw [if_pos hj, if_pos hj, hM.1]
          exact congrArg Value.ref (show c0 C + S.1 + 1 + j = c0 C + (S.1 + 1 + j) by omega)
        · rw [if_neg hj, if_neg hj]
          rfl
      · rw [cel_a (t := 32) (n := M) (by show (if k = S.1 then _ else if S.1 < k then _ else _ : Nat × Nat) = _; rw [if_neg e0, if_pos (by omega)]) (by omega)]
        show F.heap[c0 C + k]? = some (vp_cell _ _)
        have := hrow (k - S.1 - 1) (by omega)
        rw [show T.heap.size + 1 + (k - S.1 - 1) = c0 C + k by rw [hM.1]; omega] at this
        rw [this, vc32]
        congr 2
        funext j
        rw [zf_ge g1]
  obtain ⟨t, a1, b1⟩ := kk p e s m args below meth c hI F.heap ls locs hMR hL (hS.grow (by rw [f1]; omega) hold) (by have := hu.1; show u.1 + 1 + N ≤ _; omega) (by have := hu.2; show u.2 + N + N * M ≤ _; omega) F rfl X'
  refine ⟨t, step t ?_, b1⟩
  have hsz : T.heap.size = c0 C + S.1 := hM.1
  rw [hsz]
  exact a1
end Rows
end
section
/-! ===== THE WORDS OF A THROW, at every state of the run ===== -/
theorem ls_moved {C : CT} {o n d : String} {a a' : Array Value} (h : (Cond.laysStatic o n d).before a (cS C) = true) {U : State} (hG : GG C U) : (Cond.laysStatic o n d).before a' U = true := by
  obtain ⟨c, k, i, f, ad, cell, h1, h2, h3, h4, h5, h6, h7, h8, h9⟩ := Cond.laysStatic_spec h
  obtain ⟨k', g1, g2⟩ := State.fieldFound?_setVm hG.1.alike h2
  have e1 : U.vm.findClass o = some c := by rw [hG.1.alike.findClass]; exact h1
  have e2 : U.fieldFound? o n d = some (c, k', i, f) := g1
  have hlt : ad < c0 C := (Array.getElem?_eq_some_iff.mp h5).1
  have e3 : U.heap[ad]? = some cell := by rw [hG.2 ad hlt]; exact h5
  have e4 : k'.statics = some ad := by rw [g2]; exact h4
  have e5 : k'.staticTypes[f.slot]? = some f.type := by rw [g2]; exact h9
  simp [Cond.before, Cond.holds, Cond.value, e1, e2, e3, e4, e5, h3, h6, h7, h8]
theorem ir_moved {C : CT} {o n d : String} {a a' : Array Value} (h : (Cond.laysStatic o n d).before a (cS C) = true) (hr : (Cond.isRef (.static o n d)).before a (cS C) = true) {U : State} (hG : GG C U) : (Cond.isRef (.static o n d)).before a' U = true := by
  obtain ⟨c, k, i, f, ad, cell, h1, h2, h3, h4, h5, h6, h7, h8, h9⟩ := Cond.laysStatic_spec h
  obtain ⟨k', g1, g2⟩ := State.fieldFound?_setVm hG.1.alike h2
  have e2 : U.fieldFound? o n d = some (c, k', i, f) := g1
  have hlt : ad < c0 C := (Array.getElem?_eq_some_iff.mp h5).1
  have e3 : U.heap[ad]? = some cell := by rw [hG.2 ad hlt]; exact h5
  have e4 : k'.statics = some ad := by rw [g2]; exact h4
  have ev : (Term.static o n d).eval a (cS C) none [] (cS C) = cell.slots[f.slot]? := by
    simp [Term.eval, State.fieldNamed?, h2, h3, h4, h5, h6]
  have ev' : (Term.static o n d).eval a' U none [] U = cell.slots[f.slot]? := by
    simp [Term.eval, State.fieldNamed?, e2, h3, e3, e4, h6]
  simp only [Cond.before, Cond.holds, Cond.value, ev, ev'] at hr ⊢
  exact hr
/-- a word that holds at every state of the run, by its form -/
def okX (w : Cond) : Bool := match w with
  | .castable _ _ => decide (w ∈ lw_tbl)
  | .declares _ => decide (w ∈ lw_tbl)
  | .laysStatic _ _ _ => decide (w ∈ lw_tbl)
  | .isRef (.static o n d) => (decide (o = "java/lang/Throwable" ∧ n = "UNASSIGNED_STACK" ∧ d = "[Ljava/lang/StackTraceElement;") || decide (o = "java/lang/Throwable" ∧ n = "SUPPRESSED_SENTINEL" ∧ d = "Ljava/util/List;"))
  | w => goodWord w && decide (w ∈ lw_tbl)
theorem ls1 : Cond.laysStatic "java/lang/Throwable" "UNASSIGNED_STACK" "[Ljava/lang/StackTraceElement;" ∈ lw_tbl := by decide +kernel
theorem ls2 : Cond.laysStatic "java/lang/Throwable" "SUPPRESSED_SENTINEL" "Ljava/util/List;" ∈ lw_tbl := by decide +kernel
theorem okX_at {w : Cond} (h : okX w = true) {C : CT} {l : Launch} (hC : OKC C l) {U : State} (hG : GG C U) (a : Array Value) : w.before a U = true := by
  unfold okX at h
  split at h
  · exact va_Nw.use rfl (va_Nw.warmC hG.1 (va_Nw.of rfl (hC.2.1 _ (of_decide_eq_true h))))
  · exact va_Nw.use rfl (va_Nw.warmD hG.1 (va_Nw.of rfl (hC.2.1 _ (of_decide_eq_true h))))
  · exact ls_moved (hC.2.1 _ (of_decide_eq_true h)) hG
  · rename_i o n d
    rw [Bool.or_eq_true] at h
    rcases h with h | h
    · obtain ⟨rfl, rfl, rfl⟩ := of_decide_eq_true h
      exact ir_moved (hC.2.1 _ ls1) hC.2.2.2.2.2.2.1 hG
    · obtain ⟨rfl, rfl, rfl⟩ := of_decide_eq_true h
      exact ir_moved (hC.2.1 _ ls2) hC.2.2.2.2.2.2.2.1 hG
  · rw [Bool.and_eq_true] at h
    exact Wd.at ⟨of_decide_eq_true h.2, h.1⟩ hC hG.1 a
def exN : List String := ["java/lang/RuntimeException", "java/lang/Exception"]
/-- all words of a throw but the link of its own constructor -/
def exW (X : String) : List Cond := (Bundle.throwableAtoms ++ Bundle.chain0Atoms X exN) ++ (Bundle.ownAtoms0 "" 0 X exN).drop 40
theorem exW9 : (exW (kN 9)).all okX = true := by decide +kernel
theorem exW10 : (exW (kN 10)).all okX = true := by decide +kernel
theorem exW11 : (exW (kN 11)).all okX = true := by decide +kernel
end
section
/-! ===== THE METHOD AS IF IT BEGAN HERE: what has been written and made so far is old ===== -/
section Anew
variable {p : Program} {l : Launch} {e : Env} {R : Room} {s : State} {m : MethodId} {args : Array Value} {below : List Frame} {meth : Method} {c : Code} {T : State} {locs : List Loc} {cells slots : Nat}
theorem st_anew (X : Stand p l e R s m args below meth c T locs cells slots) (hc : cells ≤ R.cells) (hs : slots ≤ R.slots) :
    Stand p l e { frames := R.frames, cells := R.cells - cells, slots := R.slots - slots, locals := R.locals } (T.setFrames (.invoking m args :: below)) m args below meth c T [] 0 0 := by
  obtain ⟨g₀, hfr⟩ := X.frames_eq
  have hcur : T.cur < T.threads.size := State.cur_lt_of_frames hfr
  have hf : (T.setFrames (.invoking m args :: below)).frames = .invoking m args :: below := State.frames_setFrames _ hcur
  have hlim : e.platform.stackLimits (T.setFrames (.invoking m args :: below)).me = e.platform.stackLimits s.me := by rw [State.stackLimits_setFrames, X.limits]
  have hbyt : (T.setFrames (.invoking m args :: below)).me.stackBytes = s.me.stackBytes := by rw [State.stackBytes_setFrames, X.bytes]
  have hloc : (T.setFrames (.invoking m args :: below)).localsInUse = s.localsInUse := by
    rw [State.localsInUse_invoking hf (show (T.setFrames (.invoking m args :: below)).vm.method? m = some meth from X.method') X.code, State.localsInUse_invoking X.frames X.method X.code]
  refine ⟨X.admits, X.cas, X.clock, hf, ?_, ?_, X.method', X.code, X.here, X.tail, State.WarmedH.refl _, ?_, ?_, ?_⟩
  · have hr := X.room
    have h1 := X.heapSize
    have h2 := X.used
    have h3 : (T.setFrames (.invoking m args :: below)).slotsTrue = true := X.book
    have h4 : (T.setFrames (.invoking m args :: below)).heap = T.heap := rfl
    have h5 : (T.setFrames (.invoking m args :: below)).slotsUsed = T.slotsUsed := rfl
    have h6 : (T.setFrames (.invoking m args :: below)).frames.length = s.frames.length := by rw [hf, X.frames]
    simp only [State.hasRoom, Bool.and_eq_true, decide_eq_true_eq] at hr ⊢
    rw [hloc, hlim, hbyt, h3, h4, h5, h6]
    obtain ⟨⟨⟨⟨a1, a2⟩, a3⟩, a4⟩, a5⟩ := hr
    exact ⟨⟨⟨⟨a1, a2⟩, by omega⟩, by omega⟩, rfl⟩
  · have hh := X.hears
    have hal := X.warmed.alike
    unfold State.hears at hh ⊢
    split
    · simp only at hh ⊢
      rw [State.code?_eq] at hh ⊢
      show (((T.vm.method? _).bind _).bind _).isSome = true
      rw [hal.method?]
      exact hh
    · rfl
    · rfl
    · rename_i h1 h2 h3
      have hh' : (s.vm.method? m).any (fun x => x.sig.returnType.isNone) = true := by
        split at hh
        · exact absurd rfl (h1 _ _)
        · exact absurd rfl (h2 _ _)
        · exact absurd rfl (h3 _ _)
        · exact hh
      show (T.vm.method? m).any _ = true
      rw [X.method']
      rw [X.method] at hh'
      exact hh'
  · rw [State.stackLimits_setFrames]
  · rw [State.stackBytes_setFrames]
  · obtain ⟨t, ht, -⟩ := State.frames_cons hf
    have h := (State.sameButNew.refl (T.setFrames (.invoking m args :: below)) ht).setFrames T.frames (State.cur_lt_of_frames hf)
    rw [State.setFrames_setFrames] at h
    obtain ⟨t2, ht2, -⟩ := State.frames_cons hfr
    rw [State.setFrames_self ht2] at h
    exact h
end Anew
end
section
/-! ===== throw new X() ===== -/
theorem exW_ok {ci : Nat} (h : ci = 9 ∨ ci = 10 ∨ ci = 11) : ∀ w ∈ exW (kN ci), okX w = true := by
  rcases h with rfl | rfl | rfl
  · exact List.all_eq_true.mp exW9
  · exact List.all_eq_true.mp exW10
  · exact List.all_eq_true.mp exW11
theorem ex_atoms {own : String} {ic : Nat} {X : String} {w : Cond} (h : w ∈ Bundle.ownAtoms0 own ic X exN) : w = .methodLink own ic (Bundle.init0 X) ∨ w ∈ exW X := by
  unfold exW
  unfold Bundle.ownAtoms0 at h
  rcases List.mem_append.mp h with h | h
  · exact Or.inr (List.mem_append_left _ h)
  · rcases List.mem_cons.mp h with h | h
    · exact Or.inl h
    · exact Or.inr (List.mem_append_right _ h)
theorem cell_same {c c' : Cell} (h1 : c' = { c with slots := c'.slots }) (h2 : c'.slots.size = c.slots.size) (h3 : ∀ i : Nat, c'.slots[i]? = c.slots[i]?) : c' = c := by
  have h4 : c'.slots = c.slots := Array.ext_getElem? h3
  rw [h1, h4]
section Rows
variable {C : CT} {l : Launch} {K : KT} {R : RT} {Po : PoT} {pc pc' : Nat} {L L' : LT} {st : List Value} {S S' : ShT} {I I' : DI} {J J' : DJ} {u : Nat × Nat}
theorem v_throw {ci idx ic : Nat} (hci : ci = 9 ∨ ci = 10 ∨ ci = 11) (hd0 : decode K.1 pc = .ok (.new idx, 3)) (hd3 : decode K.1 (pc + 3) = .ok (.dup, 1)) (hd4 : decode K.1 (pc + 4) = .ok (.invokespecial ic, 3)) (hd7 : decode K.1 (pc + 7) = .ok (.athrow, 1)) (hw1 : Wd (.classLink K.2.1 idx (kN ci))) (hw2 : Wd (.instantiable (kN ci) 6)) (hw3 : Wd (.initialized (kN ci))) (hw4 : Wd (.methodLink K.2.1 ic (Bundle.init0 (kN ci)))) (hh0 : K.2.2.2.1 = []) (hR : 6 ≤ R.1) (hu : u.1 + 1 ≤ R.2.1 ∧ u.2 + 6 ≤ R.2.2)
    (hp : Po (.inr ci) (ad1 S (ci, 0)) (zf I S.1 0) (zf J S.1 0)) : V C l K R Po pc L [] S I J u := by
  intro p e s m args below meth c hI H ls locs hM hL hS h1 h2 T hT X
  subst hT
  obtain ⟨hC, hx, hb, hr, hml, hown, hlk, hh, hG, ⟨S0, I0, J0, hM0⟩, hnm⟩ := id hI
  have hc : ci < 12 := by omega
  have X' := st_anew X (show u.1 ≤ (RM R).cells from h1) (show u.2 ≤ (RM R).slots from h2)
  have hGT : GG C T := hG.on hS hM0.z rfl X.warmed
  generalize hs' : T.setFrames (.invoking m args :: below) = s' at X'
  have hG' : GG C s' := by rw [← hs']; exact hGT
  have hh' : s'.heap = T.heap := by rw [← hs']; rfl
  have hvm' : s'.vm = T.vm := by rw [← hs']; rfl
  have hown' : s'.vm.findClass K.2.1 = some m.cls := by rw [hvm', X.warmed.alike.findClass]; exact hown
  have hKn := (hG'.K hC).1 ci _ (vw_at hc)
  have hw : W p l e { frames := (RM R).frames, cells := (RM R).cells - u.1, slots := (RM R).slots - u.2, locals := (RM R).locals } s' m args below meth c T.heap [] 0 0 (fun t => t.status = .running ∧ Ended t below (.threw (c0 C + S.1)) ∧ s'.WarmedH t.vm ∧ s'.sameButNew ({ t with vm := s'.vm } : State) [] 1 6 ∧ ∃ ce, t.heap[c0 C + S.1]? = some ce ∧ ce.cls = (cD C).1 ci ∧ ce.vm = .none) (F0 m pc ls []) := by
    refine W.newcK hx hb hown' (hw1.at hC hG'.1 args) (hw2.at hC hG'.1 args) (hw3.at hC hG'.1 args) rfl hd0 (by show 0 + 1 ≤ R.2.1 - u.1; omega) (by show 0 + 6 ≤ R.2.2 - u.2; omega) hKn.2.1 hM.1 fun H1 kC hkC e1 z1 o1 => ?_
    refine lv_dup (rest := []) hx hb (va := .ref (c0 C + S.1)) hd3 rfl ?_
    intro T1 hT1 X1
    subst hT1
    obtain ⟨U, st1, b1, b2, b3, b4, ce, b5, b6⟩ := X1.ctorThrow0 (own := K.2.1) (cls := kN ci) (names := exN) (ic := ic) hx (Launch.traces_off hC.1 X1.admits) hown' (by rcases hci with rfl | rfl | rfl <;> decide +kernel) (by decide +kernel)
      (fun a ha => by
        rcases ex_atoms ha with rfl | ha
        · exact hw4.at hC hG'.1 args
        · exact okX_at (exW_ok hci a ha) hC hG' args)
      (fun z hz => by cases hz)
      (a := c0 C + S.1) hKn.2.1 hkC e1 (by rw [hh', hM.1]; exact Nat.le_refl _) (g := F0 m (pc + 3 + 1) ls [.ref (c0 C + S.1), .ref (c0 C + S.1)]) rfl (by rw [hml]; exact hL.1) rfl rfl (rest := []) rfl (by rw [hb]; exact hd4) (by rw [hb]; exact hd7)
      (fun x hx9 => by
        rw [hh0] at hh
        have h9 : c.exceptionTable.toList = [] := List.map_eq_nil_iff.mp hh
        rw [h9] at hx9
        cases hx9)
      (by show 2 + 3 < R.1; omega) (by have h9 := lv_room (m := m) (pc := pc + 3 + 1) (ls := ls) (rest := [.ref (c0 C + S.1), .ref (c0 C + S.1)]) (st := [.ref (c0 C + S.1)]) (Nat.le_of_ble_eq_true rfl); show 2 * (F0 m (pc + 3 + 1) ls _).monitorRoom + ([Value.ref (c0 C + S.1)].map fun v => v.category).sum + (13 * (2 + 1) + 41) ≤ 36 * R.1; omega) hlk
    refine ⟨U, st1, b1, b2, b3, b4, ce, b5, ?_, b6.vm⟩
    exact Option.some.inj (b6.cls.symm.trans hKn.2.1)
  obtain ⟨t, a1, a2, a3, a4, a5, ce, a6, a7, a8⟩ := hw T rfl X'
  have hlt : c0 C + S.1 < t.heap.size := (Array.getElem?_eq_some_iff.mp a6).1
  have hz : t.heap.size = c0 C + (S.1 + 1) := by
    have g1 : t.heap.size ≤ s'.heap.size + 1 := a5.2.2.1
    rw [hh', hM.1] at g1
    omega
  have hold : ∀ q, q < T.heap.size → t.heap[q]? = T.heap[q]? := by
    intro q hq
    have hq1 : s'.heap[q]? = some T.heap[q] := by rw [hh']; exact Array.getElem?_eq_getElem hq
    obtain ⟨c9, g1, g2, g3, g4⟩ := a5.2.2.2.2.2 q _ hq1
    have g5 := cell_same g2 g3 (fun i => g4 i (by simp))
    have g1 : t.heap[q]? = some c9 := g1
    rw [g1, g5]
    exact (Array.getElem?_eq_getElem hq).symm
  refine ⟨t, a1, .threw (c0 C + S.1), a2, a3, ⟨.inr ci, _, _, _, hp, ?_, ?_, S.1, rfl, by show (if S.1 = S.1 then _ else _ : Nat × Nat).1 = ci; rw [if_pos rfl], rfl⟩, locs, ?_, ?_, hS.2.2⟩
  · refine hM.grow hz hold (fun k hk => ⟨?_, zf_lt hk, zf_lt hk, zf_lt hk⟩) (fun k g1 g2 => ?_)
    · show (if k = S.1 then _ else _) = _
      rw [if_neg (by omega)]
    · have hk : k = S.1 := by have : k < S.1 + 1 := g2; omega
      subst hk
      rw [cel_o (ci := ci) (by show (if S.1 = S.1 then _ else _ : Nat × Nat).1 = ci; rw [if_pos rfl]) hc]
      refine ⟨_, vw_at hc, ce, a6, a7, a8, fun j hj => ?_⟩
      have hkind : kF ci = 0 := by rcases hci with rfl | rfl | rfl <;> rfl
      rw [show (kN ci, kT ci, kF ci).2.2 = kF ci from rfl, hkind] at hj
      exact absurd hj (Nat.not_lt_zero _)
  · exact ⟨State.WarmedH.trans hG'.1 a4, fun q hq => by rw [hold q (by rw [hM.1]; omega)]; exact hGT.2 q hq⟩
  · exact State.WarmedH.trans X.warmed (show T.WarmedH t.vm by rw [← hs'] at a4; exact a4)
  · have h9 : T.sameButNew ({ t with vm := T.vm } : State) [] 1 6 := by
      rw [← hs'] at a5
      obtain ⟨g1, g2⟩ := a5
      refine ⟨?_, g2⟩
      rw [State.setFrames_setFrames] at g1
      exact g1
    have h8 := X.same.trans (h9.setVm s.vm)
    rw [List.append_nil] at h8
    exact h8.mono hu.1 hu.2
end Rows
end
section
/-! ===== A THROW IS CAUGHT ===== -/
section Find
variable {e : Env} {s : State} {f : JFrame} {a : Addr}
theorem fh_yes {Q : Handler → Pre} {E : CtlPost} {d : Bool} {acts : List Action} {x : ExceptionTableEntry} {t : List ExceptionTableEntry} {c : ClassId} {cell : Cell} (hx : covers x f.pc = true) (h0 : x.catchType ≠ 0)
    (hl : s.vm.ClassLinks e.platform f.method.cls x.catchType c) (hcell : s.heap[a]? = some cell) (hobj : ∀ k, cell.vm ≠ .statics k) (hk : ∃ k, s.vm.classes[cell.cls]? = some k) (hc : ∃ k, s.vm.classes[c]? = some k) (hfit : s.vm.assignable cell.cls c = true) :
    wp (findHandler.go f a (x :: t)) Q E e d acts s ↔ Q (.found x.handlerPc) d acts (s.setVm (s.vm.noted f.method.cls x.catchType (.cls c))) := by
  simp only [covers] at hx
  obtain ⟨ha, ht⟩ := (resolveClass_links e.toSetting hl).op (op := VmOp.resolveClass f.method.cls x.catchType) rfl
  have hal : s.vm.Alike (s.vm.noted f.method.cls x.catchType (.cls c)) := (Vm.Alike.refl s.vm).noted _ _ _
  obtain ⟨k1, hk1⟩ := hk
  obtain ⟨k2, hk2⟩ := hc
  obtain ⟨k1', hk1', -⟩ := hal.2.2 _ _ hk1
  obtain ⟨k2', hk2', -⟩ := hal.2.2 _ _ hk2
  have hfit' : (s.vm.noted f.method.cls x.catchType (.cls c)).assignable cell.cls c = true := by rw [hal.assignable]; exact hfit
  simp [findHandler.go, hx, h0, ha, ht, hcell, hobj, hk1', hk2', hfit', VmOp.dirties, VmOp.acts]
theorem fh_no {Q : Handler → Pre} {E : CtlPost} {d : Bool} {acts : List Action} {x : ExceptionTableEntry} {t : List ExceptionTableEntry} {c : ClassId} {cell : Cell} (hx : covers x f.pc = true) (h0 : x.catchType ≠ 0)
    (hl : s.vm.ClassLinks e.platform f.method.cls x.catchType c) (hcell : s.heap[a]? = some cell) (hobj : ∀ k, cell.vm ≠ .statics k) (hk : ∃ k, s.vm.classes[cell.cls]? = some k) (hc : ∃ k, s.vm.classes[c]? = some k) (hno : s.vm.assignable cell.cls c = false) :
    wp (findHandler.go f a (x :: t)) Q E e d acts s ↔ wp (findHandler.go f a t) Q E e d acts (s.setVm (s.vm.noted f.method.cls x.catchType (.cls c))) := by
  simp only [covers] at hx
  obtain ⟨ha, ht⟩ := (resolveClass_links e.toSetting hl).op (op := VmOp.resolveClass f.method.cls x.catchType) rfl
  have hal : s.vm.Alike (s.vm.noted f.method.cls x.catchType (.cls c)) := (Vm.Alike.refl s.vm).noted _ _ _
  obtain ⟨k1, hk1⟩ := hk
  obtain ⟨k2, hk2⟩ := hc
  obtain ⟨k1', hk1', -⟩ := hal.2.2 _ _ hk1
  obtain ⟨k2', hk2', -⟩ := hal.2.2 _ _ hk2
  have hno' : (s.vm.noted f.method.cls x.catchType (.cls c)).assignable cell.cls c = false := by rw [hal.assignable]; exact hno
  simp [findHandler.go, hx, h0, ha, ht, hcell, hobj, hk1', hk2', hno', VmOp.dirties, VmOp.acts]
end Find
/-- a row of the table that the search passes, by its words at the run's start; one that catches -/
def rwNo (C : CT) (l : Launch) (own : String) (ci : Nat) (x : ExceptionTableEntry) (pc : Nat) : Prop := covers x pc = true ∧ x.catchType ≠ 0 ∧ ∃ cj, (cj = 9 ∨ cj = 10 ∨ cj = 11) ∧ ci ≠ cj ∧ Wd (.classLink own x.catchType (kN cj))
def rwYes (C : CT) (l : Launch) (own : String) (ci : Nat) (x : ExceptionTableEntry) (pc : Nat) : Prop := covers x pc = true ∧ x.catchType ≠ 0 ∧ Wd (.classLink own x.catchType (kN ci))
theorem link_at {C : CT} {l : Launch} (hC : OKC C l) {U : State} (hG : (cS C).WarmedH U.vm) {own : String} {d : ClassId} (hown : U.vm.findClass own = some d) {idx cj : Nat} (hw : Wd (.classLink own idx (kN cj))) (hcj : cj < 12) {pl : Platform} (hpl : pl.magicAccessors = ({} : Platform).magicAccessors) :
    U.vm.ClassLinks pl d idx ((cD C).1 cj) ∧ ∃ k, U.vm.classes[(cD C).1 cj]? = some k := by
  obtain ⟨c', hc', hl⟩ := Cond.classLink_spec hown (hw.at hC hG #[]) pl hpl
  have hcl := ((va_K.moved hG.alike hC.2.2.1).1 cj _ (vw_at hcj)).2
  cases hcl.1.symm.trans hc'
  obtain ⟨k, hk, -⟩ := hcl.2
  exact ⟨hl, k, hk⟩
theorem find_to {C : CT} {l : Launch} (hC : OKC C l) {e : Env} (hpl : e.platform.magicAccessors = ({} : Platform).magicAccessors) {own : String} {ci : Nat} (hci : ci = 9 ∨ ci = 10 ∨ ci = 11) {f : JFrame} {a : Addr} (x : ExceptionTableEntry) (rest : List ExceptionTableEntry) (hx : rwYes C l own ci x f.pc) :
    ∀ (pre : List ExceptionTableEntry) (U : State), (cS C).WarmedH U.vm → U.vm.findClass own = some f.method.cls → (∃ cell, U.heap[a]? = some cell ∧ cell.cls = (cD C).1 ci ∧ cell.vm = .none) → (∀ y ∈ pre, rwNo C l own ci y f.pc) →
      ∃ vm', U.WarmedH vm' ∧ ∀ (Q : Handler → Pre) (E : CtlPost) (d : Bool) (acts : List Action), wp (findHandler.go f a (pre ++ x :: rest)) Q E e d acts U ↔ Q (.found x.handlerPc) d acts (U.setVm vm') := by
  intro pre
  have hc : ci < 12 := by omega
  induction pre with
  | nil =>
    intro U hW hown hcell _
    obtain ⟨cell, g1, g2, g3⟩ := hcell
    obtain ⟨x1, x2, x3⟩ := hx
    obtain ⟨hl, k, hk⟩ := link_at hC hW hown x3 hc hpl
    have hat : ClassAt U (kN ci) ((cD C).1 ci) := ((va_K.moved hW.alike hC.2.2.1).1 ci _ (vw_at hc)).2
    refine ⟨U.vm.noted f.method.cls x.catchType (.cls ((cD C).1 ci)), ?_, fun Q E d acts => ?_⟩
    · obtain ⟨dk, _, _, kt, hd, _, _, _, _, hkt, _, hopen⟩ := hl.here
      exact (State.WarmedH.refl U).noted hd hopen (State.rightAt_cls hl)
    · exact fh_yes x1 x2 hl g1 (fun k h => by rw [g3] at h; cases h) (by rw [g2]; exact ⟨k, hk⟩) ⟨k, hk⟩ (by rw [g2]; exact va_assign hat)
  | cons y ys ih =>
    intro U hW hown hcell hp
    obtain ⟨cell, g1, g2, g3⟩ := id hcell
    obtain ⟨y1, y2, cj, hcj, hne, y3⟩ := hp y List.mem_cons_self
    obtain ⟨hl, k, hk⟩ := link_at hC hW hown y3 (by omega) hpl
    have hcl := ((va_K.moved hW.alike hC.2.2.1).1 ci _ (vw_at hc)).2
    obtain ⟨k0, hk0, -⟩ := hcl.2
    have hno : U.vm.assignable ((cD C).1 ci) ((cD C).1 cj) = false := by
      have h9 := hC.2.2.2.2.2.2.2.2 ci cj hci hcj hne
      have hv := Cond.holds_not_iff.mp h9
      have f1 := (hC.2.2.1.1 ci _ (vw_at hc)).2.1
      have f2 := (hC.2.2.1.1 cj _ (vw_at (show cj < 12 by omega))).2.1
      simp only [Cond.value, f1, f2] at hv
      rw [hW.alike.assignable]
      exact Option.some.inj hv
    have hW2 : U.WarmedH (U.vm.noted f.method.cls y.catchType (.cls ((cD C).1 cj))) := by
      obtain ⟨dk, _, _, kt, hd, _, _, _, _, hkt, _, hopen⟩ := hl.here
      exact (State.WarmedH.refl U).noted hd hopen (State.rightAt_cls hl)
    obtain ⟨vm', w1, w2⟩ := ih (U.setVm (U.vm.noted f.method.cls y.catchType (.cls ((cD C).1 cj)))) (State.WarmedH.trans hW hW2) (by rw [show (U.setVm (U.vm.noted f.method.cls y.catchType (.cls ((cD C).1 cj)))).vm = U.vm.noted f.method.cls y.catchType (.cls ((cD C).1 cj)) from rfl, hW2.alike.findClass]; exact hown) hcell (fun z hz => hp z (List.mem_cons_of_mem _ hz))
    refine ⟨vm', State.WarmedH.trans hW2 w1, fun Q E d acts => ?_⟩
    rw [List.cons_append, fh_no y1 y2 hl g1 (fun k h => by rw [g3] at h; cases h) (by rw [g2]; exact ⟨k0, hk0⟩) ⟨k, hk⟩ (by rw [g2]; exact hno)]
    exact w2 Q E d acts
theorem caught_to {tb : Tables} {e : Env} {s target : State} {g : JFrame} {c : Code} {below : List Frame} {a : Addr} (h : At s g.method c below) {pc : Nat} {vm' : Vm}
    (hfind : ∀ (Q : Handler → Pre) (E : CtlPost) (d : Bool) (acts : List Action), wp (findHandler g a) Q E e d acts ((s.setTop g).pushFrame (.throwing a)) ↔ Q (.found pc) d acts (((s.setTop g).pushFrame (.throwing a)).setVm vm'))
    (hrest : Steps tb e below ((s.setVm vm').setTop { g with pc := pc, stack := [.ref a] }) target) : Steps tb e below ((s.setTop g).pushFrame (.throwing a)) target := by
  obtain ⟨hgo, hw⟩ := h.throwing a
  refine Steps.head hgo hw ?_
  have hst : (stepThrowing e ((s.setTop g).pushFrame (.throwing a)) a (.java g :: s.frames.tail)).Is ((((s.setTop g).pushFrame (.throwing a)).setVm vm').setFrames (.java { g with pc := pc, stack := [.ref a] } :: s.frames.tail)) [] := by
    simp only [stepThrowing, searchFrame, vmDo]
    generalize hr : Sem.go _ e false [] ((s.setTop g).pushFrame (.throwing a)) = res
    obtain ⟨as, rfl, ha⟩ := Sem.eq_ok_of hr (a := Handler.found pc) (s' := ((s.setTop g).pushFrame (.throwing a)).setVm vm') (acts' := []) (by simp [hfind _ _ _ _])
    exact ⟨rfl, ha⟩
  obtain ⟨g₀, hg⟩ := Option.isSome_iff_exists.mp h.top
  obtain ⟨r, hr⟩ := State.topJava?_eq_some.mp hg
  rw [hr, List.tail_cons] at hst
  rw [stepThread_throwing (frames_entered h.top _), hr, List.tail_cons, hst.1]
  have hr' : (s.setVm vm').frames = .java g₀ :: r := hr
  rw [State.setTop_of_frames _ hr'] at hrest
  have e1 : ∀ (F G : List Frame), ((s.setFrames F).setVm vm').setFrames G = (s.setVm vm').setFrames G := fun F G => by
    rw [show (s.setFrames F).setVm vm' = (s.setVm vm').setFrames F from rfl, State.setFrames_setFrames]
  rw [State.pushFrame, State.setTop_of_frames _ hr, State.setFrames_setFrames, e1]
  exact hrest
end
section
section Rows
variable {C : CT} {l : Launch} {K : KT} {R : RT} {Po : PoT} {pc pc' : Nat} {L L' : LT} {st : List Value} {S S' : ShT} {I I' : DI} {J J' : DJ} {u : Nat × Nat}
/-- the thrown object is caught by the row x of the method's table; the rows ahead of it name other classes -/
theorem v_catch {k ci : Nat} {pre post : List (Nat × Nat × Nat × Nat)} {x : Nat × Nat × Nat × Nat} (hh : K.2.2.2.1 = pre ++ x :: post) (hci : ci = 9 ∨ ci = 10 ∨ ci = 11) (hk : isO S k ci) (hyes : (x.1 ≤ pc ∧ pc < x.2.1) ∧ x.2.2.2 ≠ 0 ∧ Wd (.classLink K.2.1 x.2.2.2 (kN ci)))
    (hno : ∀ y ∈ pre, (y.1 ≤ pc ∧ pc < y.2.1) ∧ y.2.2.2 ≠ 0 ∧ ∃ cj, (cj = 9 ∨ cj = 10 ∨ cj = 11) ∧ ci ≠ cj ∧ Wd (.classLink K.2.1 y.2.2.2 (kN cj))) (hpc : x.2.2.1 = pc') (kk : V C l K R Po pc' L [.ref k] S I J u) : VT C l K R Po pc L st S I J u k := by
  intro p e s m args below meth c hI T ls locs hM hL hS h1 h2 X
  obtain ⟨hC, hx, hb, hr, hml, hown, hlk, htb, hG, ⟨S0, I0, J0, hM0⟩, hnm⟩ := id hI
  subst hpc
  have hpl : e.platform.magicAccessors = ({} : Platform).magicAccessors := by rw [X.admits.platform]
  have hGT : GG C T := hG.on hS hM0.z rfl X.warmed
  rw [hh] at htb
  obtain ⟨pre', tl, e1, e2, e3⟩ := List.map_eq_append_iff.mp htb
  obtain ⟨x', post', e4, e5, e6⟩ := List.map_eq_cons_iff.mp e3
  subst e4
  have hvm : ((T.setTop (F0 m pc ls (st.map (cv C)))).pushFrame (.throwing (c0 C + k))).vm = T.vm := Stand.throwing_vm _ _ _
  have hhp : ((T.setTop (F0 m pc ls (st.map (cv C)))).pushFrame (.throwing (c0 C + k))).heap = T.heap := Stand.throwing_heap _ _ _
  have hPv := hM.2 k hk.1
  rw [cel_o hk.2 (by omega)] at hPv
  obtain ⟨r', hr', cellV, g1, g2, g3, -⟩ := hPv
  obtain ⟨vm', w1, w2⟩ := find_to hC hpl (own := K.2.1) hci (f := F0 m pc ls (st.map (cv C))) (a := c0 C + k) x' post' (by
      rw [← e5] at hyes
      refine ⟨?_, hyes.2.1, hyes.2.2⟩
      simp only [covers, Bool.and_eq_true, decide_eq_true_eq]
      exact hyes.1) pre' ((T.setTop (F0 m pc ls (st.map (cv C)))).pushFrame (.throwing (c0 C + k))) (by rw [hvm]; exact hGT.1) (by rw [hvm, X.warmed.alike.findClass]; exact hown) ⟨cellV, by rw [hhp]; exact g1, g2, g3⟩ (fun y hy => by
      have h9 := hno _ (by rw [← e2]; exact List.mem_map_of_mem hy)
      refine ⟨?_, h9.2.1, h9.2.2⟩
      simp only [covers, Bool.and_eq_true, decide_eq_true_eq]
      exact h9.1)
  have hW' : T.WarmedH vm' := by
    have h9 := w1
    unfold State.WarmedH at h9 ⊢
    first | exact h9 | (rw [hvm] at h9; exact h9)
  have X' := X.noted (State.WarmedH.trans X.warmed hW')
  obtain ⟨t, a1, b1⟩ := kk p e s m args below meth c hI T.heap ls locs hM hL hS h1 h2 (T.setVm vm') rfl X'
  refine ⟨t, caught_to (g := F0 m pc ls (st.map (cv C))) X.here (pc := x'.handlerPc) (vm' := vm') ?_ ?_, b1⟩
  · intro Q E d acts
    rw [Jvm.W.findHandler_eq (meth := meth) (code := c) (by rw [hvm]; exact X.method') X.code, e1]
    exact w2 Q E d acts
  · rw [← e5] at a1
    exact a1
end Rows
end
section
theorem wi_Lw : Wd (.initialized "FileIndexerLaw") := Wd.t 0 (by decide +kernel) rfl
theorem wi_Fi : Wd (.initialized "FileIndexer") := Wd.t 1 (by decide +kernel) rfl
theorem wi_Tr : Wd (.initialized "FileIndexer$Tree") := Wd.t 2 (by decide +kernel) rfl
theorem wi_Qu : Wd (.initialized "FileIndexer$Queue") := Wd.t 3 (by decide +kernel) rfl
theorem wi_Ix : Wd (.initialized "FileIndexer$Index") := Wd.t 4 (by decide +kernel) rfl
theorem wi_En : Wd (.initialized "FileIndexer$Entry") := Wd.t 5 (by decide +kernel) rfl
theorem wi_Qy : Wd (.initialized "FileIndexer$Query") := Wd.t 6 (by decide +kernel) rfl
theorem wi_Tm : Wd (.initialized "FileIndexer$Term") := Wd.t 7 (by decide +kernel) rfl
theorem wi_Rk : Wd (.initialized "FileIndexer$Ranking") := Wd.t 8 (by decide +kernel) rfl
theorem wi_Md : Wd (.initialized "FileIndexerModel") := Wd.t 9 (by decide +kernel) rfl
theorem wi_Ea : Wd (.initialized "java/lang/IllegalArgumentException") := Wd.t 13 (by decide +kernel) rfl
theorem wi_Es : Wd (.initialized "java/lang/IllegalStateException") := Wd.t 14 (by decide +kernel) rfl
theorem wi_Ne : Wd (.initialized "java/util/NoSuchElementException") := Wd.t 15 (by decide +kernel) rfl
theorem wi_Mt : Wd (.initialized "java/lang/Math") := Wd.t 16 (by decide +kernel) rfl
theorem wn_Fi : Wd (.instantiable (kN 7) 6) := Wd.t 18 (by decide +kernel) rfl
theorem wn_Tr : Wd (.instantiable (kN 6) 4) := Wd.t 26 (by decide +kernel) rfl
theorem wn_Qu : Wd (.instantiable (kN 3) 4) := Wd.t 48 (by decide +kernel) rfl
theorem wn_Ix : Wd (.instantiable (kN 1) 3) := Wd.t 67 (by decide +kernel) rfl
theorem wn_En : Wd (.instantiable (kN 0) 3) := Wd.t 74 (by decide +kernel) rfl
theorem wn_Qy : Wd (.instantiable (kN 2) 7) := Wd.t 102 (by decide +kernel) rfl
theorem wn_Tm : Wd (.instantiable (kN 5) 5) := Wd.t 109 (by decide +kernel) rfl
theorem wn_Rk : Wd (.instantiable (kN 4) 3) := Wd.t 153 (by decide +kernel) rfl
theorem wn_Ea : Wd (.instantiable (kN 9) 6) := Wd.t 257 (by decide +kernel) rfl
theorem wn_Es : Wd (.instantiable (kN 10) 6) := Wd.t 328 (by decide +kernel) rfl
theorem wn_Ne : Wd (.instantiable (kN 11) 6) := Wd.t 371 (by decide +kernel) rfl
theorem wn_Md : Wd (.instantiable (kN 8) 34) := Wd.t 691 (by decide +kernel) rfl
theorem wc_Fi_init : Wd (cwd k_Fi_init y_Fi_init) := Wd.t 21 (by decide +kernel) (by decide +kernel)
theorem cd_Fi_init : Cd k_Fi_init y_Fi_init := ⟨rfl, rfl, by decide +kernel, ⟨by decide +kernel, by decide +kernel⟩, wc_Fi_init, wi_Fi, by decide⟩
theorem wc_Tr_init : Wd (cwd k_Tr_init y_Tr_init) := Wd.t 29 (by decide +kernel) (by decide +kernel)
theorem cd_Tr_init : Cd k_Tr_init y_Tr_init := ⟨rfl, rfl, by decide +kernel, ⟨by decide +kernel, by decide +kernel⟩, wc_Tr_init, wi_Tr, by decide⟩
theorem wc_Qu_init : Wd (cwd k_Qu_init y_Qu_init) := Wd.t 51 (by decide +kernel) (by decide +kernel)
theorem cd_Qu_init : Cd k_Qu_init y_Qu_init := ⟨rfl, rfl, by decide +kernel, ⟨by decide +kernel, by decide +kernel⟩, wc_Qu_init, wi_Qu, by decide⟩
theorem wc_Ix_init : Wd (cwd k_Ix_init y_Ix_init) := Wd.t 70 (by decide +kernel) (by decide +kernel)
theorem cd_Ix_init : Cd k_Ix_init y_Ix_init := ⟨rfl, rfl, by decide +kernel, ⟨by decide +kernel, by decide +kernel⟩, wc_Ix_init, wi_Ix, by decide⟩
theorem wc_En_init : Wd (cwd k_En_init y_En_init) := Wd.t 77 (by decide +kernel) (by decide +kernel)
theorem cd_En_init : Cd k_En_init y_En_init := ⟨rfl, rfl, by decide +kernel, ⟨by decide +kernel, by decide +kernel⟩, wc_En_init, wi_En, by decide⟩
theorem wc_Qy_init : Wd (cwd k_Qy_init y_Qy_init) := Wd.t 105 (by decide +kernel) (by decide +kernel)
theorem cd_Qy_init : Cd k_Qy_init y_Qy_init := ⟨rfl, rfl, by decide +kernel, ⟨by decide +kernel, by decide +kernel⟩, wc_Qy_init, wi_Qy, by decide⟩
theorem wc_Tm_init : Wd (cwd k_Tm_init y_Tm_init) := Wd.t 112 (by decide +kernel) (by decide +kernel)
theorem cd_Tm_init : Cd k_Tm_init y_Tm_init := ⟨rfl, rfl, by decide +kernel, ⟨by decide +kernel, by decide +kernel⟩, wc_Tm_init, wi_Tm, by decide⟩
theorem wc_Rk_init : Wd (cwd k_Rk_init y_Rk_init) := Wd.t 156 (by decide +kernel) (by decide +kernel)
theorem cd_Rk_init : Cd k_Rk_init y_Rk_init := ⟨rfl, rfl, by decide +kernel, ⟨by decide +kernel, by decide +kernel⟩, wc_Rk_init, wi_Rk, by decide⟩
theorem wc_Fi_rescan : Wd (cwd k_Fi_rescan y_Fi_rescan) := Wd.t 190 (by decide +kernel) (by decide +kernel)
theorem cd_Fi_rescan : Cd k_Fi_rescan y_Fi_rescan := ⟨rfl, rfl, by decide +kernel, ⟨by decide +kernel, by decide +kernel⟩, wc_Fi_rescan, wi_Fi, by decide⟩
theorem wc_Tr_isFile : Wd (cwd k_Tr_isFile y_Tr_isFile) := Wd.t 194 (by decide +kernel) (by decide +kernel)
theorem cd_Tr_isFile : Cd k_Tr_isFile y_Tr_isFile := ⟨rfl, rfl, by decide +kernel, ⟨by decide +kernel, by decide +kernel⟩, wc_Tr_isFile, wi_Tr, by decide⟩
theorem wc_Fi_isNode : Wd (cwd k_Fi_isNode y_Fi_isNode) := Wd.t 197 (by decide +kernel) (by decide +kernel)
theorem cd_Fi_isNode : Cd k_Fi_isNode y_Fi_isNode := ⟨rfl, rfl, by decide +kernel, ⟨by decide +kernel, by decide +kernel⟩, wc_Fi_isNode, wi_Fi, by decide⟩
theorem wc_Fi_readFile : Wd (cwd k_Fi_readFile y_Fi_readFile) := Wd.t 201 (by decide +kernel) (by decide +kernel)
theorem cd_Fi_readFile : Cd k_Fi_readFile y_Fi_readFile := ⟨rfl, rfl, by decide +kernel, ⟨by decide +kernel, by decide +kernel⟩, wc_Fi_readFile, wi_Fi, by decide⟩
theorem wc_Tr_contentOf : Wd (cwd k_Tr_contentOf y_Tr_contentOf) := Wd.t 205 (by decide +kernel) (by decide +kernel)
theorem cd_Tr_contentOf : Cd k_Tr_contentOf y_Tr_contentOf := ⟨rfl, rfl, by decide +kernel, ⟨by decide +kernel, by decide +kernel⟩, wc_Tr_contentOf, wi_Tr, by decide⟩
theorem wc_Tr_lengthOf : Wd (cwd k_Tr_lengthOf y_Tr_lengthOf) := Wd.t 209 (by decide +kernel) (by decide +kernel)
theorem cd_Tr_lengthOf : Cd k_Tr_lengthOf y_Tr_lengthOf := ⟨rfl, rfl, by decide +kernel, ⟨by decide +kernel, by decide +kernel⟩, wc_Tr_lengthOf, wi_Tr, by decide⟩
theorem wc_Ix_read : Wd (cwd k_Ix_read y_Ix_read) := Wd.t 213 (by decide +kernel) (by decide +kernel)
theorem cd_Ix_read : Cd k_Ix_read y_Ix_read := ⟨rfl, rfl, by decide +kernel, ⟨by decide +kernel, by decide +kernel⟩, wc_Ix_read, wi_Ix, by decide⟩
theorem wc_En_take : Wd (cwd k_En_take y_En_take) := Wd.t 217 (by decide +kernel) (by decide +kernel)
theorem cd_En_take : Cd k_En_take y_En_take := ⟨rfl, rfl, by decide +kernel, ⟨by decide +kernel, by decide +kernel⟩, wc_En_take, wi_En, by decide⟩
theorem wc_En_titleEndOf : Wd (cwd k_En_titleEndOf y_En_titleEndOf) := Wd.t 220 (by decide +kernel) (by decide +kernel)
theorem cd_En_titleEndOf : Cd k_En_titleEndOf y_En_titleEndOf := ⟨rfl, rfl, by decide +kernel, ⟨by decide +kernel, by decide +kernel⟩, wc_En_titleEndOf, wi_En, by decide⟩
theorem wc_Fi_isLetter : Wd (cwd k_Fi_isLetter y_Fi_isLetter) := Wd.t 223 (by decide +kernel) (by decide +kernel)
theorem cd_Fi_isLetter : Cd k_Fi_isLetter y_Fi_isLetter := ⟨rfl, rfl, by decide +kernel, ⟨by decide +kernel, by decide +kernel⟩, wc_Fi_isLetter, wi_Fi, by decide⟩
theorem wc_Fi_withLetter : Wd (cwd k_Fi_withLetter y_Fi_withLetter) := Wd.t 226 (by decide +kernel) (by decide +kernel)
theorem cd_Fi_withLetter : Cd k_Fi_withLetter y_Fi_withLetter := ⟨rfl, rfl, by decide +kernel, ⟨by decide +kernel, by decide +kernel⟩, wc_Fi_withLetter, wi_Fi, by decide⟩
theorem wc_En_add : Wd (cwd k_En_add y_En_add) := Wd.t 230 (by decide +kernel) (by decide +kernel)
theorem cd_En_add : Cd k_En_add y_En_add := ⟨rfl, rfl, by decide +kernel, ⟨by decide +kernel, by decide +kernel⟩, wc_En_add, wi_En, by decide⟩
theorem wc_Ix_forget : Wd (cwd k_Ix_forget y_Ix_forget) := Wd.t 234 (by decide +kernel) (by decide +kernel)
theorem cd_Ix_forget : Cd k_Ix_forget y_Ix_forget := ⟨rfl, rfl, by decide +kernel, ⟨by decide +kernel, by decide +kernel⟩, wc_Ix_forget, wi_Ix, by decide⟩
theorem wc_Qu_startAnew : Wd (cwd k_Qu_startAnew y_Qu_startAnew) := Wd.t 238 (by decide +kernel) (by decide +kernel)
theorem cd_Qu_startAnew : Cd k_Qu_startAnew y_Qu_startAnew := ⟨rfl, rfl, by decide +kernel, ⟨by decide +kernel, by decide +kernel⟩, wc_Qu_startAnew, wi_Qu, by decide⟩
theorem wc_Fi_fault : Wd (cwd k_Fi_fault y_Fi_fault) := Wd.t 242 (by decide +kernel) (by decide +kernel)
theorem cd_Fi_fault : Cd k_Fi_fault y_Fi_fault := ⟨rfl, rfl, by decide +kernel, ⟨by decide +kernel, by decide +kernel⟩, wc_Fi_fault, wi_Fi, by decide⟩
theorem wc_Fi_make : Wd (cwd k_Fi_make y_Fi_make) := Wd.t 251 (by decide +kernel) (by decide +kernel)
theorem cd_Fi_make : Cd k_Fi_make y_Fi_make := ⟨rfl, rfl, by decide +kernel, ⟨by decide +kernel, by decide +kernel⟩, wc_Fi_make, wi_Fi, by decide⟩
theorem wc_Fi_isNodeBelowRoot : Wd (cwd k_Fi_isNodeBelowRoot y_Fi_isNodeBelowRoot) := Wd.t 254 (by decide +kernel) (by decide +kernel)
theorem cd_Fi_isNodeBelowRoot : Cd k_Fi_isNodeBelowRoot y_Fi_isNodeBelowRoot := ⟨rfl, rfl, by decide +kernel, ⟨by decide +kernel, by decide +kernel⟩, wc_Fi_isNodeBelowRoot, wi_Fi, by decide⟩
theorem wc_Tr_isThere : Wd (cwd k_Tr_isThere y_Tr_isThere) := Wd.t 322 (by decide +kernel) (by decide +kernel)
theorem cd_Tr_isThere : Cd k_Tr_isThere y_Tr_isThere := ⟨rfl, rfl, by decide +kernel, ⟨by decide +kernel, by decide +kernel⟩, wc_Tr_isThere, wi_Tr, by decide⟩
theorem wc_Tr_isFolder : Wd (cwd k_Tr_isFolder y_Tr_isFolder) := Wd.t 326 (by decide +kernel) (by decide +kernel)
theorem cd_Tr_isFolder : Cd k_Tr_isFolder y_Tr_isFolder := ⟨rfl, rfl, by decide +kernel, ⟨by decide +kernel, by decide +kernel⟩, wc_Tr_isFolder, wi_Tr, by decide⟩
theorem wc_Tr_put : Wd (cwd k_Tr_put y_Tr_put) := Wd.t 345 (by decide +kernel) (by decide +kernel)
theorem cd_Tr_put : Cd k_Tr_put y_Tr_put := ⟨rfl, rfl, by decide +kernel, ⟨by decide +kernel, by decide +kernel⟩, wc_Tr_put, wi_Tr, by decide⟩
theorem wc_Qu_tell : Wd (cwd k_Qu_tell y_Qu_tell) := Wd.t 349 (by decide +kernel) (by decide +kernel)
theorem cd_Qu_tell : Cd k_Qu_tell y_Qu_tell := ⟨rfl, rfl, by decide +kernel, ⟨by decide +kernel, by decide +kernel⟩, wc_Qu_tell, wi_Qu, by decide⟩
theorem wc_Qu_placeOf : Wd (cwd k_Qu_placeOf y_Qu_placeOf) := Wd.t 353 (by decide +kernel) (by decide +kernel)
theorem cd_Qu_placeOf : Cd k_Qu_placeOf y_Qu_placeOf := ⟨rfl, rfl, by decide +kernel, ⟨by decide +kernel, by decide +kernel⟩, wc_Qu_placeOf, wi_Qu, by decide⟩
theorem wc_Qu_putTogether : Wd (cwd k_Qu_putTogether y_Qu_putTogether) := Wd.t 357 (by decide +kernel) (by decide +kernel)
theorem cd_Qu_putTogether : Cd k_Qu_putTogether y_Qu_putTogether := ⟨rfl, rfl, by decide +kernel, ⟨by decide +kernel, by decide +kernel⟩, wc_Qu_putTogether, wi_Qu, by decide⟩
theorem wc_Qu_drop : Wd (cwd k_Qu_drop y_Qu_drop) := Wd.t 361 (by decide +kernel) (by decide +kernel)
theorem cd_Qu_drop : Cd k_Qu_drop y_Qu_drop := ⟨rfl, rfl, by decide +kernel, ⟨by decide +kernel, by decide +kernel⟩, wc_Qu_drop, wi_Qu, by decide⟩
theorem wc_Fi_write : Wd (cwd k_Fi_write y_Fi_write) := Wd.t 369 (by decide +kernel) (by decide +kernel)
theorem cd_Fi_write : Cd k_Fi_write y_Fi_write := ⟨rfl, rfl, by decide +kernel, ⟨by decide +kernel, by decide +kernel⟩, wc_Fi_write, wi_Fi, by decide⟩
theorem wc_Fi_areCodes : Wd (cwd k_Fi_areCodes y_Fi_areCodes) := Wd.t 387 (by decide +kernel) (by decide +kernel)
theorem cd_Fi_areCodes : Cd k_Fi_areCodes y_Fi_areCodes := ⟨rfl, rfl, by decide +kernel, ⟨by decide +kernel, by decide +kernel⟩, wc_Fi_areCodes, wi_Fi, by decide⟩
theorem wc_Fi_byteOf : Wd (cwd k_Fi_byteOf y_Fi_byteOf) := Wd.t 390 (by decide +kernel) (by decide +kernel)
theorem cd_Fi_byteOf : Cd k_Fi_byteOf y_Fi_byteOf := ⟨rfl, rfl, by decide +kernel, ⟨by decide +kernel, by decide +kernel⟩, wc_Fi_byteOf, wi_Fi, by decide⟩
theorem wc_Fi_isCode : Wd (cwd k_Fi_isCode y_Fi_isCode) := Wd.t 393 (by decide +kernel) (by decide +kernel)
theorem cd_Fi_isCode : Cd k_Fi_isCode y_Fi_isCode := ⟨rfl, rfl, by decide +kernel, ⟨by decide +kernel, by decide +kernel⟩, wc_Fi_isCode, wi_Fi, by decide⟩
theorem wc_Tr_append : Wd (cwd k_Tr_append y_Tr_append) := Wd.t 397 (by decide +kernel) (by decide +kernel)
theorem cd_Tr_append : Cd k_Tr_append y_Tr_append := ⟨rfl, rfl, by decide +kernel, ⟨by decide +kernel, by decide +kernel⟩, wc_Tr_append, wi_Tr, by decide⟩
theorem wc_Fi_cut : Wd (cwd k_Fi_cut y_Fi_cut) := Wd.t 404 (by decide +kernel) (by decide +kernel)
theorem cd_Fi_cut : Cd k_Fi_cut y_Fi_cut := ⟨rfl, rfl, by decide +kernel, ⟨by decide +kernel, by decide +kernel⟩, wc_Fi_cut, wi_Fi, by decide⟩
theorem wc_Tr_shorten : Wd (cwd k_Tr_shorten y_Tr_shorten) := Wd.t 408 (by decide +kernel) (by decide +kernel)
theorem cd_Tr_shorten : Cd k_Tr_shorten y_Tr_shorten := ⟨rfl, rfl, by decide +kernel, ⟨by decide +kernel, by decide +kernel⟩, wc_Tr_shorten, wi_Tr, by decide⟩
theorem wc_Fi_remove : Wd (cwd k_Fi_remove y_Fi_remove) := Wd.t 415 (by decide +kernel) (by decide +kernel)
theorem cd_Fi_remove : Cd k_Fi_remove y_Fi_remove := ⟨rfl, rfl, by decide +kernel, ⟨by decide +kernel, by decide +kernel⟩, wc_Fi_remove, wi_Fi, by decide⟩
theorem wc_Tr_isWithin : Wd (cwd k_Tr_isWithin y_Tr_isWithin) := Wd.t 419 (by decide +kernel) (by decide +kernel)
theorem cd_Tr_isWithin : Cd k_Tr_isWithin y_Tr_isWithin := ⟨rfl, rfl, by decide +kernel, ⟨by decide +kernel, by decide +kernel⟩, wc_Tr_isWithin, wi_Tr, by decide⟩
theorem wc_Fi_removeOne : Wd (cwd k_Fi_removeOne y_Fi_removeOne) := Wd.t 424 (by decide +kernel) (by decide +kernel)
theorem cd_Fi_removeOne : Cd k_Fi_removeOne y_Fi_removeOne := ⟨rfl, rfl, by decide +kernel, ⟨by decide +kernel, by decide +kernel⟩, wc_Fi_removeOne, wi_Fi, by decide⟩
theorem wc_Tr_drop : Wd (cwd k_Tr_drop y_Tr_drop) := Wd.t 428 (by decide +kernel) (by decide +kernel)
theorem cd_Tr_drop : Cd k_Tr_drop y_Tr_drop := ⟨rfl, rfl, by decide +kernel, ⟨by decide +kernel, by decide +kernel⟩, wc_Tr_drop, wi_Tr, by decide⟩
theorem wc_Fi_move : Wd (cwd k_Fi_move y_Fi_move) := Wd.t 435 (by decide +kernel) (by decide +kernel)
theorem cd_Fi_move : Cd k_Fi_move y_Fi_move := ⟨rfl, rfl, by decide +kernel, ⟨by decide +kernel, by decide +kernel⟩, wc_Fi_move, wi_Fi, by decide⟩
theorem wc_Tr_parentOf : Wd (cwd k_Tr_parentOf y_Tr_parentOf) := Wd.t 439 (by decide +kernel) (by decide +kernel)
theorem cd_Tr_parentOf : Cd k_Tr_parentOf y_Tr_parentOf := ⟨rfl, rfl, by decide +kernel, ⟨by decide +kernel, by decide +kernel⟩, wc_Tr_parentOf, wi_Tr, by decide⟩
theorem wc_Tr_hang : Wd (cwd k_Tr_hang y_Tr_hang) := Wd.t 443 (by decide +kernel) (by decide +kernel)
theorem cd_Tr_hang : Cd k_Tr_hang y_Tr_hang := ⟨rfl, rfl, by decide +kernel, ⟨by decide +kernel, by decide +kernel⟩, wc_Tr_hang, wi_Tr, by decide⟩
theorem wc_Fi_work : Wd (cwd k_Fi_work y_Fi_work) := Wd.t 450 (by decide +kernel) (by decide +kernel)
theorem cd_Fi_work : Cd k_Fi_work y_Fi_work := ⟨rfl, rfl, by decide +kernel, ⟨by decide +kernel, by decide +kernel⟩, wc_Fi_work, wi_Fi, by decide⟩
theorem wc_Qu_isLost : Wd (cwd k_Qu_isLost y_Qu_isLost) := Wd.t 454 (by decide +kernel) (by decide +kernel)
theorem cd_Qu_isLost : Cd k_Qu_isLost y_Qu_isLost := ⟨rfl, rfl, by decide +kernel, ⟨by decide +kernel, by decide +kernel⟩, wc_Qu_isLost, wi_Qu, by decide⟩
theorem wc_Qu_size : Wd (cwd k_Qu_size y_Qu_size) := Wd.t 458 (by decide +kernel) (by decide +kernel)
theorem cd_Qu_size : Cd k_Qu_size y_Qu_size := ⟨rfl, rfl, by decide +kernel, ⟨by decide +kernel, by decide +kernel⟩, wc_Qu_size, wi_Qu, by decide⟩
theorem wc_Mt_min : Wd (cwd k_Mt_min y_Mt_min) := Wd.t 461 (by decide +kernel) (by decide +kernel)
theorem wc_Qu_kindAt : Wd (cwd k_Qu_kindAt y_Qu_kindAt) := Wd.t 465 (by decide +kernel) (by decide +kernel)
theorem cd_Qu_kindAt : Cd k_Qu_kindAt y_Qu_kindAt := ⟨rfl, rfl, by decide +kernel, ⟨by decide +kernel, by decide +kernel⟩, wc_Qu_kindAt, wi_Qu, by decide⟩
theorem wc_Qu_fileAt : Wd (cwd k_Qu_fileAt y_Qu_fileAt) := Wd.t 469 (by decide +kernel) (by decide +kernel)
theorem cd_Qu_fileAt : Cd k_Qu_fileAt y_Qu_fileAt := ⟨rfl, rfl, by decide +kernel, ⟨by decide +kernel, by decide +kernel⟩, wc_Qu_fileAt, wi_Qu, by decide⟩
theorem wc_Fi_follow : Wd (cwd k_Fi_follow y_Fi_follow) := Wd.t 473 (by decide +kernel) (by decide +kernel)
theorem cd_Fi_follow : Cd k_Fi_follow y_Fi_follow := ⟨rfl, rfl, by decide +kernel, ⟨by decide +kernel, by decide +kernel⟩, wc_Fi_follow, wi_Fi, by decide⟩
theorem wc_Fi_type : Wd (cwd k_Fi_type y_Fi_type) := Wd.t 481 (by decide +kernel) (by decide +kernel)
theorem cd_Fi_type : Cd k_Fi_type y_Fi_type := ⟨rfl, rfl, by decide +kernel, ⟨by decide +kernel, by decide +kernel⟩, wc_Fi_type, wi_Fi, by decide⟩
theorem wc_Qy_length : Wd (cwd k_Qy_length y_Qy_length) := Wd.t 485 (by decide +kernel) (by decide +kernel)
theorem cd_Qy_length : Cd k_Qy_length y_Qy_length := ⟨rfl, rfl, by decide +kernel, ⟨by decide +kernel, by decide +kernel⟩, wc_Qy_length, wi_Qy, by decide⟩
theorem wc_Qy_append : Wd (cwd k_Qy_append y_Qy_append) := Wd.t 489 (by decide +kernel) (by decide +kernel)
theorem cd_Qy_append : Cd k_Qy_append y_Qy_append := ⟨rfl, rfl, by decide +kernel, ⟨by decide +kernel, by decide +kernel⟩, wc_Qy_append, wi_Qy, by decide⟩
theorem wc_Fi_search : Wd (cwd k_Fi_search y_Fi_search) := Wd.t 496 (by decide +kernel) (by decide +kernel)
theorem cd_Fi_search : Cd k_Fi_search y_Fi_search := ⟨rfl, rfl, by decide +kernel, ⟨by decide +kernel, by decide +kernel⟩, wc_Fi_search, wi_Fi, by decide⟩
theorem wc_Rk_clear : Wd (cwd k_Rk_clear y_Rk_clear) := Wd.t 500 (by decide +kernel) (by decide +kernel)
theorem cd_Rk_clear : Cd k_Rk_clear y_Rk_clear := ⟨rfl, rfl, by decide +kernel, ⟨by decide +kernel, by decide +kernel⟩, wc_Rk_clear, wi_Rk, by decide⟩
theorem wc_Qy_parse : Wd (cwd k_Qy_parse y_Qy_parse) := Wd.t 504 (by decide +kernel) (by decide +kernel)
theorem cd_Qy_parse : Cd k_Qy_parse y_Qy_parse := ⟨rfl, rfl, by decide +kernel, ⟨by decide +kernel, by decide +kernel⟩, wc_Qy_parse, wi_Qy, by decide⟩
theorem wc_Qy_parseAlternative : Wd (cwd k_Qy_parseAlternative y_Qy_parseAlternative) := Wd.t 508 (by decide +kernel) (by decide +kernel)
theorem cd_Qy_parseAlternative : Cd k_Qy_parseAlternative y_Qy_parseAlternative := ⟨rfl, rfl, by decide +kernel, ⟨by decide +kernel, by decide +kernel⟩, wc_Qy_parseAlternative, wi_Qy, by decide⟩
theorem wc_Qy_skipBlanks : Wd (cwd k_Qy_skipBlanks y_Qy_skipBlanks) := Wd.t 512 (by decide +kernel) (by decide +kernel)
theorem cd_Qy_skipBlanks : Cd k_Qy_skipBlanks y_Qy_skipBlanks := ⟨rfl, rfl, by decide +kernel, ⟨by decide +kernel, by decide +kernel⟩, wc_Qy_skipBlanks, wi_Qy, by decide⟩
theorem wc_Qy_parseTerm : Wd (cwd k_Qy_parseTerm y_Qy_parseTerm) := Wd.t 516 (by decide +kernel) (by decide +kernel)
theorem cd_Qy_parseTerm : Cd k_Qy_parseTerm y_Qy_parseTerm := ⟨rfl, rfl, by decide +kernel, ⟨by decide +kernel, by decide +kernel⟩, wc_Qy_parseTerm, wi_Qy, by decide⟩
theorem wc_Tm_begin : Wd (cwd k_Tm_begin y_Tm_begin) := Wd.t 520 (by decide +kernel) (by decide +kernel)
theorem cd_Tm_begin : Cd k_Tm_begin y_Tm_begin := ⟨rfl, rfl, by decide +kernel, ⟨by decide +kernel, by decide +kernel⟩, wc_Tm_begin, wi_Tm, by decide⟩
theorem wc_Qy_next : Wd (cwd k_Qy_next y_Qy_next) := Wd.t 525 (by decide +kernel) (by decide +kernel)
theorem cd_Qy_next : Cd k_Qy_next y_Qy_next := ⟨rfl, rfl, by decide +kernel, ⟨by decide +kernel, by decide +kernel⟩, wc_Qy_next, wi_Qy, by decide⟩
theorem wc_Tm_forbid : Wd (cwd k_Tm_forbid y_Tm_forbid) := Wd.t 529 (by decide +kernel) (by decide +kernel)
theorem cd_Tm_forbid : Cd k_Tm_forbid y_Tm_forbid := ⟨rfl, rfl, by decide +kernel, ⟨by decide +kernel, by decide +kernel⟩, wc_Tm_forbid, wi_Tm, by decide⟩
theorem wc_Qy_parsePhrase : Wd (cwd k_Qy_parsePhrase y_Qy_parsePhrase) := Wd.t 533 (by decide +kernel) (by decide +kernel)
theorem cd_Qy_parsePhrase : Cd k_Qy_parsePhrase y_Qy_parsePhrase := ⟨rfl, rfl, by decide +kernel, ⟨by decide +kernel, by decide +kernel⟩, wc_Qy_parsePhrase, wi_Qy, by decide⟩
theorem wc_Qy_isFaulty : Wd (cwd k_Qy_isFaulty y_Qy_isFaulty) := Wd.t 537 (by decide +kernel) (by decide +kernel)
theorem cd_Qy_isFaulty : Cd k_Qy_isFaulty y_Qy_isFaulty := ⟨rfl, rfl, by decide +kernel, ⟨by decide +kernel, by decide +kernel⟩, wc_Qy_isFaulty, wi_Qy, by decide⟩
theorem wc_Qy_parseWord : Wd (cwd k_Qy_parseWord y_Qy_parseWord) := Wd.t 542 (by decide +kernel) (by decide +kernel)
theorem cd_Qy_parseWord : Cd k_Qy_parseWord y_Qy_parseWord := ⟨rfl, rfl, by decide +kernel, ⟨by decide +kernel, by decide +kernel⟩, wc_Qy_parseWord, wi_Qy, by decide⟩
theorem wc_Tm_add : Wd (cwd k_Tm_add y_Tm_add) := Wd.t 547 (by decide +kernel) (by decide +kernel)
theorem cd_Tm_add : Cd k_Tm_add y_Tm_add := ⟨rfl, rfl, by decide +kernel, ⟨by decide +kernel, by decide +kernel⟩, wc_Tm_add, wi_Tm, by decide⟩
theorem wc_Tm_isEmpty : Wd (cwd k_Tm_isEmpty y_Tm_isEmpty) := Wd.t 551 (by decide +kernel) (by decide +kernel)
theorem cd_Tm_isEmpty : Cd k_Tm_isEmpty y_Tm_isEmpty := ⟨rfl, rfl, by decide +kernel, ⟨by decide +kernel, by decide +kernel⟩, wc_Tm_isEmpty, wi_Tm, by decide⟩
theorem wc_Qy_parseWordOrBeginning : Wd (cwd k_Qy_parseWordOrBeginning y_Qy_parseWordOrBeginning) := Wd.t 555 (by decide +kernel) (by decide +kernel)
theorem cd_Qy_parseWordOrBeginning : Cd k_Qy_parseWordOrBeginning y_Qy_parseWordOrBeginning := ⟨rfl, rfl, by decide +kernel, ⟨by decide +kernel, by decide +kernel⟩, wc_Qy_parseWordOrBeginning, wi_Qy, by decide⟩
theorem wc_Tm_compareOnly : Wd (cwd k_Tm_compareOnly y_Tm_compareOnly) := Wd.t 559 (by decide +kernel) (by decide +kernel)
theorem cd_Tm_compareOnly : Cd k_Tm_compareOnly y_Tm_compareOnly := ⟨rfl, rfl, by decide +kernel, ⟨by decide +kernel, by decide +kernel⟩, wc_Tm_compareOnly, wi_Tm, by decide⟩
theorem wc_Qy_endTerm : Wd (cwd k_Qy_endTerm y_Qy_endTerm) := Wd.t 563 (by decide +kernel) (by decide +kernel)
theorem cd_Qy_endTerm : Cd k_Qy_endTerm y_Qy_endTerm := ⟨rfl, rfl, by decide +kernel, ⟨by decide +kernel, by decide +kernel⟩, wc_Qy_endTerm, wi_Qy, by decide⟩
theorem wc_Qy_atAlternativeEnd : Wd (cwd k_Qy_atAlternativeEnd y_Qy_atAlternativeEnd) := Wd.t 567 (by decide +kernel) (by decide +kernel)
theorem cd_Qy_atAlternativeEnd : Cd k_Qy_atAlternativeEnd y_Qy_atAlternativeEnd := ⟨rfl, rfl, by decide +kernel, ⟨by decide +kernel, by decide +kernel⟩, wc_Qy_atAlternativeEnd, wi_Qy, by decide⟩
theorem wc_Qy_clearText : Wd (cwd k_Qy_clearText y_Qy_clearText) := Wd.t 571 (by decide +kernel) (by decide +kernel)
theorem cd_Qy_clearText : Cd k_Qy_clearText y_Qy_clearText := ⟨rfl, rfl, by decide +kernel, ⟨by decide +kernel, by decide +kernel⟩, wc_Qy_clearText, wi_Qy, by decide⟩
theorem wc_Ix_has : Wd (cwd k_Ix_has y_Ix_has) := Wd.t 575 (by decide +kernel) (by decide +kernel)
theorem cd_Ix_has : Cd k_Ix_has y_Ix_has := ⟨rfl, rfl, by decide +kernel, ⟨by decide +kernel, by decide +kernel⟩, wc_Ix_has, wi_Ix, by decide⟩
theorem wc_Fi_isSearched : Wd (cwd k_Fi_isSearched y_Fi_isSearched) := Wd.t 580 (by decide +kernel) (by decide +kernel)
theorem cd_Fi_isSearched : Cd k_Fi_isSearched y_Fi_isSearched := ⟨rfl, rfl, by decide +kernel, ⟨by decide +kernel, by decide +kernel⟩, wc_Fi_isSearched, wi_Fi, by decide⟩
theorem wc_Fi_rank : Wd (cwd k_Fi_rank y_Fi_rank) := Wd.t 584 (by decide +kernel) (by decide +kernel)
theorem cd_Fi_rank : Cd k_Fi_rank y_Fi_rank := ⟨rfl, rfl, by decide +kernel, ⟨by decide +kernel, by decide +kernel⟩, wc_Fi_rank, wi_Fi, by decide⟩
theorem wc_Ix_entryOf : Wd (cwd k_Ix_entryOf y_Ix_entryOf) := Wd.t 588 (by decide +kernel) (by decide +kernel)
theorem cd_Ix_entryOf : Cd k_Ix_entryOf y_Ix_entryOf := ⟨rfl, rfl, by decide +kernel, ⟨by decide +kernel, by decide +kernel⟩, wc_Ix_entryOf, wi_Ix, by decide⟩
theorem wc_Qy_scoreOf : Wd (cwd k_Qy_scoreOf y_Qy_scoreOf) := Wd.t 592 (by decide +kernel) (by decide +kernel)
theorem cd_Qy_scoreOf : Cd k_Qy_scoreOf y_Qy_scoreOf := ⟨rfl, rfl, by decide +kernel, ⟨by decide +kernel, by decide +kernel⟩, wc_Qy_scoreOf, wi_Qy, by decide⟩
theorem wc_Qy_partOf : Wd (cwd k_Qy_partOf y_Qy_partOf) := Wd.t 596 (by decide +kernel) (by decide +kernel)
theorem cd_Qy_partOf : Cd k_Qy_partOf y_Qy_partOf := ⟨rfl, rfl, by decide +kernel, ⟨by decide +kernel, by decide +kernel⟩, wc_Qy_partOf, wi_Qy, by decide⟩
theorem wc_Tm_isOf : Wd (cwd k_Tm_isOf y_Tm_isOf) := Wd.t 600 (by decide +kernel) (by decide +kernel)
theorem cd_Tm_isOf : Cd k_Tm_isOf y_Tm_isOf := ⟨rfl, rfl, by decide +kernel, ⟨by decide +kernel, by decide +kernel⟩, wc_Tm_isOf, wi_Tm, by decide⟩
theorem wc_Tm_weightIn : Wd (cwd k_Tm_weightIn y_Tm_weightIn) := Wd.t 604 (by decide +kernel) (by decide +kernel)
theorem cd_Tm_weightIn : Cd k_Tm_weightIn y_Tm_weightIn := ⟨rfl, rfl, by decide +kernel, ⟨by decide +kernel, by decide +kernel⟩, wc_Tm_weightIn, wi_Tm, by decide⟩
theorem wc_En_size : Wd (cwd k_En_size y_En_size) := Wd.t 608 (by decide +kernel) (by decide +kernel)
theorem cd_En_size : Cd k_En_size y_En_size := ⟨rfl, rfl, by decide +kernel, ⟨by decide +kernel, by decide +kernel⟩, wc_En_size, wi_En, by decide⟩
theorem wc_Tm_hits : Wd (cwd k_Tm_hits y_Tm_hits) := Wd.t 612 (by decide +kernel) (by decide +kernel)
theorem cd_Tm_hits : Cd k_Tm_hits y_Tm_hits := ⟨rfl, rfl, by decide +kernel, ⟨by decide +kernel, by decide +kernel⟩, wc_Tm_hits, wi_Tm, by decide⟩
theorem wc_En_wordAt : Wd (cwd k_En_wordAt y_En_wordAt) := Wd.t 616 (by decide +kernel) (by decide +kernel)
theorem cd_En_wordAt : Cd k_En_wordAt y_En_wordAt := ⟨rfl, rfl, by decide +kernel, ⟨by decide +kernel, by decide +kernel⟩, wc_En_wordAt, wi_En, by decide⟩
theorem wc_En_weightAt : Wd (cwd k_En_weightAt y_En_weightAt) := Wd.t 620 (by decide +kernel) (by decide +kernel)
theorem cd_En_weightAt : Cd k_En_weightAt y_En_weightAt := ⟨rfl, rfl, by decide +kernel, ⟨by decide +kernel, by decide +kernel⟩, wc_En_weightAt, wi_En, by decide⟩
theorem wc_Tm_isUnwanted : Wd (cwd k_Tm_isUnwanted y_Tm_isUnwanted) := Wd.t 624 (by decide +kernel) (by decide +kernel)
theorem cd_Tm_isUnwanted : Cd k_Tm_isUnwanted y_Tm_isUnwanted := ⟨rfl, rfl, by decide +kernel, ⟨by decide +kernel, by decide +kernel⟩, wc_Tm_isUnwanted, wi_Tm, by decide⟩
theorem wc_Mt_max : Wd (cwd k_Mt_max y_Mt_max) := Wd.t 627 (by decide +kernel) (by decide +kernel)
theorem wc_Rk_add : Wd (cwd k_Rk_add y_Rk_add) := Wd.t 631 (by decide +kernel) (by decide +kernel)
theorem cd_Rk_add : Cd k_Rk_add y_Rk_add := ⟨rfl, rfl, by decide +kernel, ⟨by decide +kernel, by decide +kernel⟩, wc_Rk_add, wi_Rk, by decide⟩
theorem wc_Rk_size : Wd (cwd k_Rk_size y_Rk_size) := Wd.t 635 (by decide +kernel) (by decide +kernel)
theorem cd_Rk_size : Cd k_Rk_size y_Rk_size := ⟨rfl, rfl, by decide +kernel, ⟨by decide +kernel, by decide +kernel⟩, wc_Rk_size, wi_Rk, by decide⟩
theorem wc_Fi_result : Wd (cwd k_Fi_result y_Fi_result) := Wd.t 642 (by decide +kernel) (by decide +kernel)
theorem cd_Fi_result : Cd k_Fi_result y_Fi_result := ⟨rfl, rfl, by decide +kernel, ⟨by decide +kernel, by decide +kernel⟩, wc_Fi_result, wi_Fi, by decide⟩
theorem wc_Rk_fileAt : Wd (cwd k_Rk_fileAt y_Rk_fileAt) := Wd.t 646 (by decide +kernel) (by decide +kernel)
theorem cd_Rk_fileAt : Cd k_Rk_fileAt y_Rk_fileAt := ⟨rfl, rfl, by decide +kernel, ⟨by decide +kernel, by decide +kernel⟩, wc_Rk_fileAt, wi_Rk, by decide⟩
theorem wc_Rk_scoreAt : Wd (cwd k_Rk_scoreAt y_Rk_scoreAt) := Wd.t 650 (by decide +kernel) (by decide +kernel)
theorem cd_Rk_scoreAt : Cd k_Rk_scoreAt y_Rk_scoreAt := ⟨rfl, rfl, by decide +kernel, ⟨by decide +kernel, by decide +kernel⟩, wc_Rk_scoreAt, wi_Rk, by decide⟩
theorem wc_Fi_words : Wd (cwd k_Fi_words y_Fi_words) := Wd.t 657 (by decide +kernel) (by decide +kernel)
theorem cd_Fi_words : Cd k_Fi_words y_Fi_words := ⟨rfl, rfl, by decide +kernel, ⟨by decide +kernel, by decide +kernel⟩, wc_Fi_words, wi_Fi, by decide⟩
theorem wc_Fi_event : Wd (cwd k_Fi_event y_Fi_event) := Wd.t 665 (by decide +kernel) (by decide +kernel)
theorem cd_Fi_event : Cd k_Fi_event y_Fi_event := ⟨rfl, rfl, by decide +kernel, ⟨by decide +kernel, by decide +kernel⟩, wc_Fi_event, wi_Fi, by decide⟩
theorem wc_Fi_count : Wd (cwd k_Fi_count y_Fi_count) := Wd.t 672 (by decide +kernel) (by decide +kernel)
theorem cd_Fi_count : Cd k_Fi_count y_Fi_count := ⟨rfl, rfl, by decide +kernel, ⟨by decide +kernel, by decide +kernel⟩, wc_Fi_count, wi_Fi, by decide⟩
theorem wc_Tr_nodesThere : Wd (cwd k_Tr_nodesThere y_Tr_nodesThere) := Wd.t 676 (by decide +kernel) (by decide +kernel)
theorem cd_Tr_nodesThere : Cd k_Tr_nodesThere y_Tr_nodesThere := ⟨rfl, rfl, by decide +kernel, ⟨by decide +kernel, by decide +kernel⟩, wc_Tr_nodesThere, wi_Tr, by decide⟩
theorem wc_Tr_filesThere : Wd (cwd k_Tr_filesThere y_Tr_filesThere) := Wd.t 680 (by decide +kernel) (by decide +kernel)
theorem cd_Tr_filesThere : Cd k_Tr_filesThere y_Tr_filesThere := ⟨rfl, rfl, by decide +kernel, ⟨by decide +kernel, by decide +kernel⟩, wc_Tr_filesThere, wi_Tr, by decide⟩
theorem wc_Ix_size : Wd (cwd k_Ix_size y_Ix_size) := Wd.t 685 (by decide +kernel) (by decide +kernel)
theorem cd_Ix_size : Cd k_Ix_size y_Ix_size := ⟨rfl, rfl, by decide +kernel, ⟨by decide +kernel, by decide +kernel⟩, wc_Ix_size, wi_Ix, by decide⟩
theorem wc_Ix_timesRead : Wd (cwd k_Ix_timesRead y_Ix_timesRead) := Wd.t 689 (by decide +kernel) (by decide +kernel)
theorem cd_Ix_timesRead : Cd k_Ix_timesRead y_Ix_timesRead := ⟨rfl, rfl, by decide +kernel, ⟨by decide +kernel, by decide +kernel⟩, wc_Ix_timesRead, wi_Ix, by decide⟩
theorem wc_Md_init : Wd (cwd k_Md_init y_Md_init) := Wd.t 694 (by decide +kernel) (by decide +kernel)
theorem cd_Md_init : Cd k_Md_init y_Md_init := ⟨rfl, rfl, by decide +kernel, ⟨by decide +kernel, by decide +kernel⟩, wc_Md_init, wi_Md, by decide⟩
theorem wc_Md_thrown : Wd (cwd k_Md_thrown y_Md_thrown) := Wd.t 802 (by decide +kernel) (by decide +kernel)
theorem cd_Md_thrown : Cd k_Md_thrown y_Md_thrown := ⟨rfl, rfl, by decide +kernel, ⟨by decide +kernel, by decide +kernel⟩, wc_Md_thrown, wi_Md, by decide⟩
theorem wc_Md_make : Wd (cwd k_Md_make y_Md_make) := Wd.t 806 (by decide +kernel) (by decide +kernel)
theorem cd_Md_make : Cd k_Md_make y_Md_make := ⟨rfl, rfl, by decide +kernel, ⟨by decide +kernel, by decide +kernel⟩, wc_Md_make, wi_Md, by decide⟩
theorem wc_Md_in : Wd (cwd k_Md_in y_Md_in) := Wd.t 809 (by decide +kernel) (by decide +kernel)
theorem cd_Md_in : Cd k_Md_in y_Md_in := ⟨rfl, rfl, by decide +kernel, ⟨by decide +kernel, by decide +kernel⟩, wc_Md_in, wi_Md, by decide⟩
theorem wc_Md_raise : Wd (cwd k_Md_raise y_Md_raise) := Wd.t 813 (by decide +kernel) (by decide +kernel)
theorem cd_Md_raise : Cd k_Md_raise y_Md_raise := ⟨rfl, rfl, by decide +kernel, ⟨by decide +kernel, by decide +kernel⟩, wc_Md_raise, wi_Md, by decide⟩
theorem wc_Md_isFolder : Wd (cwd k_Md_isFolder y_Md_isFolder) := Wd.t 817 (by decide +kernel) (by decide +kernel)
theorem cd_Md_isFolder : Cd k_Md_isFolder y_Md_isFolder := ⟨rfl, rfl, by decide +kernel, ⟨by decide +kernel, by decide +kernel⟩, wc_Md_isFolder, wi_Md, by decide⟩
theorem wc_Md_tell : Wd (cwd k_Md_tell y_Md_tell) := Wd.t 821 (by decide +kernel) (by decide +kernel)
theorem cd_Md_tell : Cd k_Md_tell y_Md_tell := ⟨rfl, rfl, by decide +kernel, ⟨by decide +kernel, by decide +kernel⟩, wc_Md_tell, wi_Md, by decide⟩
theorem wc_Md_together : Wd (cwd k_Md_together y_Md_together) := Wd.t 824 (by decide +kernel) (by decide +kernel)
theorem cd_Md_together : Cd k_Md_together y_Md_together := ⟨rfl, rfl, by decide +kernel, ⟨by decide +kernel, by decide +kernel⟩, wc_Md_together, wi_Md, by decide⟩
theorem wc_Md_drop : Wd (cwd k_Md_drop y_Md_drop) := Wd.t 828 (by decide +kernel) (by decide +kernel)
theorem cd_Md_drop : Cd k_Md_drop y_Md_drop := ⟨rfl, rfl, by decide +kernel, ⟨by decide +kernel, by decide +kernel⟩, wc_Md_drop, wi_Md, by decide⟩
theorem wc_Md_write : Wd (cwd k_Md_write y_Md_write) := Wd.t 832 (by decide +kernel) (by decide +kernel)
theorem cd_Md_write : Cd k_Md_write y_Md_write := ⟨rfl, rfl, by decide +kernel, ⟨by decide +kernel, by decide +kernel⟩, wc_Md_write, wi_Md, by decide⟩
theorem wc_Md_isFile : Wd (cwd k_Md_isFile y_Md_isFile) := Wd.t 836 (by decide +kernel) (by decide +kernel)
theorem cd_Md_isFile : Cd k_Md_isFile y_Md_isFile := ⟨rfl, rfl, by decide +kernel, ⟨by decide +kernel, by decide +kernel⟩, wc_Md_isFile, wi_Md, by decide⟩
theorem wc_Md_cut : Wd (cwd k_Md_cut y_Md_cut) := Wd.t 840 (by decide +kernel) (by decide +kernel)
theorem cd_Md_cut : Cd k_Md_cut y_Md_cut := ⟨rfl, rfl, by decide +kernel, ⟨by decide +kernel, by decide +kernel⟩, wc_Md_cut, wi_Md, by decide⟩
theorem wc_Md_remove : Wd (cwd k_Md_remove y_Md_remove) := Wd.t 844 (by decide +kernel) (by decide +kernel)
theorem cd_Md_remove : Cd k_Md_remove y_Md_remove := ⟨rfl, rfl, by decide +kernel, ⟨by decide +kernel, by decide +kernel⟩, wc_Md_remove, wi_Md, by decide⟩
theorem wc_Md_mark : Wd (cwd k_Md_mark y_Md_mark) := Wd.t 848 (by decide +kernel) (by decide +kernel)
theorem cd_Md_mark : Cd k_Md_mark y_Md_mark := ⟨rfl, rfl, by decide +kernel, ⟨by decide +kernel, by decide +kernel⟩, wc_Md_mark, wi_Md, by decide⟩
theorem wc_Md_within : Wd (cwd k_Md_within y_Md_within) := Wd.t 852 (by decide +kernel) (by decide +kernel)
theorem cd_Md_within : Cd k_Md_within y_Md_within := ⟨rfl, rfl, by decide +kernel, ⟨by decide +kernel, by decide +kernel⟩, wc_Md_within, wi_Md, by decide⟩
theorem wc_Md_move : Wd (cwd k_Md_move y_Md_move) := Wd.t 856 (by decide +kernel) (by decide +kernel)
theorem cd_Md_move : Cd k_Md_move y_Md_move := ⟨rfl, rfl, by decide +kernel, ⟨by decide +kernel, by decide +kernel⟩, wc_Md_move, wi_Md, by decide⟩
theorem wc_Md_work : Wd (cwd k_Md_work y_Md_work) := Wd.t 860 (by decide +kernel) (by decide +kernel)
theorem cd_Md_work : Cd k_Md_work y_Md_work := ⟨rfl, rfl, by decide +kernel, ⟨by decide +kernel, by decide +kernel⟩, wc_Md_work, wi_Md, by decide⟩
theorem wc_Md_read : Wd (cwd k_Md_read y_Md_read) := Wd.t 864 (by decide +kernel) (by decide +kernel)
theorem cd_Md_read : Cd k_Md_read y_Md_read := ⟨rfl, rfl, by decide +kernel, ⟨by decide +kernel, by decide +kernel⟩, wc_Md_read, wi_Md, by decide⟩
theorem wc_Md_letter : Wd (cwd k_Md_letter y_Md_letter) := Wd.t 867 (by decide +kernel) (by decide +kernel)
theorem cd_Md_letter : Cd k_Md_letter y_Md_letter := ⟨rfl, rfl, by decide +kernel, ⟨by decide +kernel, by decide +kernel⟩, wc_Md_letter, wi_Md, by decide⟩
theorem wc_Md_rescan : Wd (cwd k_Md_rescan y_Md_rescan) := Wd.t 871 (by decide +kernel) (by decide +kernel)
theorem cd_Md_rescan : Cd k_Md_rescan y_Md_rescan := ⟨rfl, rfl, by decide +kernel, ⟨by decide +kernel, by decide +kernel⟩, wc_Md_rescan, wi_Md, by decide⟩
theorem wc_Md_type : Wd (cwd k_Md_type y_Md_type) := Wd.t 875 (by decide +kernel) (by decide +kernel)
theorem cd_Md_type : Cd k_Md_type y_Md_type := ⟨rfl, rfl, by decide +kernel, ⟨by decide +kernel, by decide +kernel⟩, wc_Md_type, wi_Md, by decide⟩
theorem wc_Md_search : Wd (cwd k_Md_search y_Md_search) := Wd.t 879 (by decide +kernel) (by decide +kernel)
theorem cd_Md_search : Cd k_Md_search y_Md_search := ⟨rfl, rfl, by decide +kernel, ⟨by decide +kernel, by decide +kernel⟩, wc_Md_search, wi_Md, by decide⟩
theorem wc_Md_parse : Wd (cwd k_Md_parse y_Md_parse) := Wd.t 883 (by decide +kernel) (by decide +kernel)
theorem cd_Md_parse : Cd k_Md_parse y_Md_parse := ⟨rfl, rfl, by decide +kernel, ⟨by decide +kernel, by decide +kernel⟩, wc_Md_parse, wi_Md, by decide⟩
theorem wc_Md_blanks : Wd (cwd k_Md_blanks y_Md_blanks) := Wd.t 887 (by decide +kernel) (by decide +kernel)
theorem cd_Md_blanks : Cd k_Md_blanks y_Md_blanks := ⟨rfl, rfl, by decide +kernel, ⟨by decide +kernel, by decide +kernel⟩, wc_Md_blanks, wi_Md, by decide⟩
theorem wc_Md_now : Wd (cwd k_Md_now y_Md_now) := Wd.t 891 (by decide +kernel) (by decide +kernel)
theorem cd_Md_now : Cd k_Md_now y_Md_now := ⟨rfl, rfl, by decide +kernel, ⟨by decide +kernel, by decide +kernel⟩, wc_Md_now, wi_Md, by decide⟩
theorem wc_Md_takeTerm : Wd (cwd k_Md_takeTerm y_Md_takeTerm) := Wd.t 895 (by decide +kernel) (by decide +kernel)
theorem cd_Md_takeTerm : Cd k_Md_takeTerm y_Md_takeTerm := ⟨rfl, rfl, by decide +kernel, ⟨by decide +kernel, by decide +kernel⟩, wc_Md_takeTerm, wi_Md, by decide⟩
theorem wc_Md_takePhrase : Wd (cwd k_Md_takePhrase y_Md_takePhrase) := Wd.t 899 (by decide +kernel) (by decide +kernel)
theorem cd_Md_takePhrase : Cd k_Md_takePhrase y_Md_takePhrase := ⟨rfl, rfl, by decide +kernel, ⟨by decide +kernel, by decide +kernel⟩, wc_Md_takePhrase, wi_Md, by decide⟩
theorem wc_Md_blame : Wd (cwd k_Md_blame y_Md_blame) := Wd.t 903 (by decide +kernel) (by decide +kernel)
theorem cd_Md_blame : Cd k_Md_blame y_Md_blame := ⟨rfl, rfl, by decide +kernel, ⟨by decide +kernel, by decide +kernel⟩, wc_Md_blame, wi_Md, by decide⟩
theorem wc_Md_takeWord : Wd (cwd k_Md_takeWord y_Md_takeWord) := Wd.t 907 (by decide +kernel) (by decide +kernel)
theorem cd_Md_takeWord : Cd k_Md_takeWord y_Md_takeWord := ⟨rfl, rfl, by decide +kernel, ⟨by decide +kernel, by decide +kernel⟩, wc_Md_takeWord, wi_Md, by decide⟩
theorem wc_Md_score : Wd (cwd k_Md_score y_Md_score) := Wd.t 911 (by decide +kernel) (by decide +kernel)
theorem cd_Md_score : Cd k_Md_score y_Md_score := ⟨rfl, rfl, by decide +kernel, ⟨by decide +kernel, by decide +kernel⟩, wc_Md_score, wi_Md, by decide⟩
theorem wc_Md_hits : Wd (cwd k_Md_hits y_Md_hits) := Wd.t 915 (by decide +kernel) (by decide +kernel)
theorem cd_Md_hits : Cd k_Md_hits y_Md_hits := ⟨rfl, rfl, by decide +kernel, ⟨by decide +kernel, by decide +kernel⟩, wc_Md_hits, wi_Md, by decide⟩
theorem wc_Md_hit : Wd (cwd k_Md_hit y_Md_hit) := Wd.t 919 (by decide +kernel) (by decide +kernel)
theorem cd_Md_hit : Cd k_Md_hit y_Md_hit := ⟨rfl, rfl, by decide +kernel, ⟨by decide +kernel, by decide +kernel⟩, wc_Md_hit, wi_Md, by decide⟩
theorem wc_Md_place : Wd (cwd k_Md_place y_Md_place) := Wd.t 923 (by decide +kernel) (by decide +kernel)
theorem cd_Md_place : Cd k_Md_place y_Md_place := ⟨rfl, rfl, by decide +kernel, ⟨by decide +kernel, by decide +kernel⟩, wc_Md_place, wi_Md, by decide⟩
theorem wc_Md_fault : Wd (cwd k_Md_fault y_Md_fault) := Wd.t 927 (by decide +kernel) (by decide +kernel)
theorem cd_Md_fault : Cd k_Md_fault y_Md_fault := ⟨rfl, rfl, by decide +kernel, ⟨by decide +kernel, by decide +kernel⟩, wc_Md_fault, wi_Md, by decide⟩
theorem wc_Md_result : Wd (cwd k_Md_result y_Md_result) := Wd.t 931 (by decide +kernel) (by decide +kernel)
theorem cd_Md_result : Cd k_Md_result y_Md_result := ⟨rfl, rfl, by decide +kernel, ⟨by decide +kernel, by decide +kernel⟩, wc_Md_result, wi_Md, by decide⟩
theorem wc_Md_words : Wd (cwd k_Md_words y_Md_words) := Wd.t 935 (by decide +kernel) (by decide +kernel)
theorem cd_Md_words : Cd k_Md_words y_Md_words := ⟨rfl, rfl, by decide +kernel, ⟨by decide +kernel, by decide +kernel⟩, wc_Md_words, wi_Md, by decide⟩
theorem wc_Md_event : Wd (cwd k_Md_event y_Md_event) := Wd.t 939 (by decide +kernel) (by decide +kernel)
theorem cd_Md_event : Cd k_Md_event y_Md_event := ⟨rfl, rfl, by decide +kernel, ⟨by decide +kernel, by decide +kernel⟩, wc_Md_event, wi_Md, by decide⟩
theorem wc_Md_count : Wd (cwd k_Md_count y_Md_count) := Wd.t 943 (by decide +kernel) (by decide +kernel)
theorem cd_Md_count : Cd k_Md_count y_Md_count := ⟨rfl, rfl, by decide +kernel, ⟨by decide +kernel, by decide +kernel⟩, wc_Md_count, wi_Md, by decide⟩
theorem wc_Lw_make : Wd (cwd k_Lw_make y_Lw_make) := Wd.t 245 (by decide +kernel) (by decide +kernel)
theorem cd_Lw_make : Cd k_Lw_make y_Lw_make := ⟨rfl, rfl, by decide +kernel, ⟨by decide +kernel, by decide +kernel⟩, wc_Lw_make, wi_Lw, by decide⟩
theorem wc_Lw_write : Wd (cwd k_Lw_write y_Lw_write) := Wd.t 364 (by decide +kernel) (by decide +kernel)
theorem cd_Lw_write : Cd k_Lw_write y_Lw_write := ⟨rfl, rfl, by decide +kernel, ⟨by decide +kernel, by decide +kernel⟩, wc_Lw_write, wi_Lw, by decide⟩
theorem wc_Lw_cut : Wd (cwd k_Lw_cut y_Lw_cut) := Wd.t 400 (by decide +kernel) (by decide +kernel)
theorem cd_Lw_cut : Cd k_Lw_cut y_Lw_cut := ⟨rfl, rfl, by decide +kernel, ⟨by decide +kernel, by decide +kernel⟩, wc_Lw_cut, wi_Lw, by decide⟩
theorem wc_Lw_remove : Wd (cwd k_Lw_remove y_Lw_remove) := Wd.t 411 (by decide +kernel) (by decide +kernel)
theorem cd_Lw_remove : Cd k_Lw_remove y_Lw_remove := ⟨rfl, rfl, by decide +kernel, ⟨by decide +kernel, by decide +kernel⟩, wc_Lw_remove, wi_Lw, by decide⟩
theorem wc_Lw_move : Wd (cwd k_Lw_move y_Lw_move) := Wd.t 431 (by decide +kernel) (by decide +kernel)
theorem cd_Lw_move : Cd k_Lw_move y_Lw_move := ⟨rfl, rfl, by decide +kernel, ⟨by decide +kernel, by decide +kernel⟩, wc_Lw_move, wi_Lw, by decide⟩
theorem wc_Lw_work : Wd (cwd k_Lw_work y_Lw_work) := Wd.t 446 (by decide +kernel) (by decide +kernel)
theorem cd_Lw_work : Cd k_Lw_work y_Lw_work := ⟨rfl, rfl, by decide +kernel, ⟨by decide +kernel, by decide +kernel⟩, wc_Lw_work, wi_Lw, by decide⟩
theorem wc_Lw_type : Wd (cwd k_Lw_type y_Lw_type) := Wd.t 477 (by decide +kernel) (by decide +kernel)
theorem cd_Lw_type : Cd k_Lw_type y_Lw_type := ⟨rfl, rfl, by decide +kernel, ⟨by decide +kernel, by decide +kernel⟩, wc_Lw_type, wi_Lw, by decide⟩
theorem wc_Lw_search : Wd (cwd k_Lw_search y_Lw_search) := Wd.t 492 (by decide +kernel) (by decide +kernel)
theorem cd_Lw_search : Cd k_Lw_search y_Lw_search := ⟨rfl, rfl, by decide +kernel, ⟨by decide +kernel, by decide +kernel⟩, wc_Lw_search, wi_Lw, by decide⟩
theorem wc_Lw_result : Wd (cwd k_Lw_result y_Lw_result) := Wd.t 638 (by decide +kernel) (by decide +kernel)
theorem cd_Lw_result : Cd k_Lw_result y_Lw_result := ⟨rfl, rfl, by decide +kernel, ⟨by decide +kernel, by decide +kernel⟩, wc_Lw_result, wi_Lw, by decide⟩
theorem wc_Lw_words : Wd (cwd k_Lw_words y_Lw_words) := Wd.t 653 (by decide +kernel) (by decide +kernel)
theorem cd_Lw_words : Cd k_Lw_words y_Lw_words := ⟨rfl, rfl, by decide +kernel, ⟨by decide +kernel, by decide +kernel⟩, wc_Lw_words, wi_Lw, by decide⟩
theorem wc_Lw_event : Wd (cwd k_Lw_event y_Lw_event) := Wd.t 661 (by decide +kernel) (by decide +kernel)
theorem cd_Lw_event : Cd k_Lw_event y_Lw_event := ⟨rfl, rfl, by decide +kernel, ⟨by decide +kernel, by decide +kernel⟩, wc_Lw_event, wi_Lw, by decide⟩
theorem wc_Lw_count : Wd (cwd k_Lw_count y_Lw_count) := Wd.t 668 (by decide +kernel) (by decide +kernel)
theorem cd_Lw_count : Cd k_Lw_count y_Lw_count := ⟨rfl, rfl, by decide +kernel, ⟨by decide +kernel, by decide +kernel⟩, wc_Lw_count, wi_Lw, by decide⟩
theorem fl_Tr_9 : FL "FileIndexer$Tree" 9 6 0 := ⟨by decide, by decide, rfl, Wd.t 33 (by decide +kernel) rfl⟩
theorem fl_Tr_15 : FL "FileIndexer$Tree" 15 6 1 := ⟨by decide, by decide, rfl, Wd.t 34 (by decide +kernel) rfl⟩
theorem fl_Tr_20 : FL "FileIndexer$Tree" 20 6 2 := ⟨by decide, by decide, rfl, Wd.t 35 (by decide +kernel) rfl⟩
theorem fl_Tr_23 : FL "FileIndexer$Tree" 23 6 3 := ⟨by decide, by decide, rfl, Wd.t 36 (by decide +kernel) rfl⟩
theorem fl_Qu_9 : FL "FileIndexer$Queue" 9 3 0 := ⟨by decide, by decide, rfl, Wd.t 53 (by decide +kernel) rfl⟩
theorem fl_Qu_15 : FL "FileIndexer$Queue" 15 3 1 := ⟨by decide, by decide, rfl, Wd.t 54 (by decide +kernel) rfl⟩
theorem fl_Qu_18 : FL "FileIndexer$Queue" 18 3 2 := ⟨by decide, by decide, rfl, Wd.t 55 (by decide +kernel) rfl⟩
theorem fl_Qu_22 : FL "FileIndexer$Queue" 22 3 3 := ⟨by decide, by decide, rfl, Wd.t 56 (by decide +kernel) rfl⟩
theorem fl_En_11 : FL "FileIndexer$Entry" 11 0 0 := ⟨by decide, by decide, rfl, Wd.t 79 (by decide +kernel) rfl⟩
theorem fl_En_15 : FL "FileIndexer$Entry" 15 0 1 := ⟨by decide, by decide, rfl, Wd.t 80 (by decide +kernel) rfl⟩
theorem fl_En_19 : FL "FileIndexer$Entry" 19 0 2 := ⟨by decide, by decide, rfl, Wd.t 81 (by decide +kernel) rfl⟩
theorem fl_Ix_11 : FL "FileIndexer$Index" 11 1 0 := ⟨by decide, by decide, rfl, Wd.t 91 (by decide +kernel) rfl⟩
theorem fl_Ix_17 : FL "FileIndexer$Index" 17 1 1 := ⟨by decide, by decide, rfl, Wd.t 92 (by decide +kernel) rfl⟩
theorem fl_Ix_30 : FL "FileIndexer$Index" 30 1 2 := ⟨by decide, by decide, rfl, Wd.t 93 (by decide +kernel) rfl⟩
theorem fl_Tm_9 : FL "FileIndexer$Term" 9 5 0 := ⟨by decide, by decide, rfl, Wd.t 114 (by decide +kernel) rfl⟩
theorem fl_Tm_15 : FL "FileIndexer$Term" 15 5 1 := ⟨by decide, by decide, rfl, Wd.t 115 (by decide +kernel) rfl⟩
theorem fl_Tm_19 : FL "FileIndexer$Term" 19 5 2 := ⟨by decide, by decide, rfl, Wd.t 116 (by decide +kernel) rfl⟩
theorem fl_Tm_22 : FL "FileIndexer$Term" 22 5 3 := ⟨by decide, by decide, rfl, Wd.t 117 (by decide +kernel) rfl⟩
theorem fl_Tm_28 : FL "FileIndexer$Term" 28 5 4 := ⟨by decide, by decide, rfl, Wd.t 118 (by decide +kernel) rfl⟩
theorem fl_Qy_9 : FL "FileIndexer$Query" 9 2 0 := ⟨by decide, by decide, rfl, Wd.t 130 (by decide +kernel) rfl⟩
theorem fl_Qy_22 : FL "FileIndexer$Query" 22 2 1 := ⟨by decide, by decide, rfl, Wd.t 131 (by decide +kernel) rfl⟩
theorem fl_Qy_17 : FL "FileIndexer$Query" 17 2 2 := ⟨by decide, by decide, rfl, Wd.t 132 (by decide +kernel) rfl⟩
theorem fl_Qy_32 : FL "FileIndexer$Query" 32 2 3 := ⟨by decide, by decide, rfl, Wd.t 133 (by decide +kernel) rfl⟩
theorem fl_Qy_35 : FL "FileIndexer$Query" 35 2 4 := ⟨by decide, by decide, rfl, Wd.t 134 (by decide +kernel) rfl⟩
theorem fl_Qy_26 : FL "FileIndexer$Query" 26 2 5 := ⟨by decide, by decide, rfl, Wd.t 135 (by decide +kernel) rfl⟩
theorem fl_Qy_29 : FL "FileIndexer$Query" 29 2 6 := ⟨by decide, by decide, rfl, Wd.t 136 (by decide +kernel) rfl⟩
theorem fl_Rk_9 : FL "FileIndexer$Ranking" 9 4 0 := ⟨by decide, by decide, rfl, Wd.t 158 (by decide +kernel) rfl⟩
theorem fl_Rk_15 : FL "FileIndexer$Ranking" 15 4 1 := ⟨by decide, by decide, rfl, Wd.t 159 (by decide +kernel) rfl⟩
theorem fl_Rk_18 : FL "FileIndexer$Ranking" 18 4 2 := ⟨by decide, by decide, rfl, Wd.t 160 (by decide +kernel) rfl⟩
theorem fl_Fi_10 : FL "FileIndexer" 10 7 0 := ⟨by decide, by decide, rfl, Wd.t 168 (by decide +kernel) rfl⟩
theorem fl_Fi_19 : FL "FileIndexer" 19 7 1 := ⟨by decide, by decide, rfl, Wd.t 169 (by decide +kernel) rfl⟩
theorem fl_Fi_26 : FL "FileIndexer" 26 7 2 := ⟨by decide, by decide, rfl, Wd.t 170 (by decide +kernel) rfl⟩
theorem fl_Fi_33 : FL "FileIndexer" 33 7 3 := ⟨by decide, by decide, rfl, Wd.t 171 (by decide +kernel) rfl⟩
theorem fl_Fi_40 : FL "FileIndexer" 40 7 4 := ⟨by decide, by decide, rfl, Wd.t 172 (by decide +kernel) rfl⟩
theorem fl_Fi_44 : FL "FileIndexer" 44 7 5 := ⟨by decide, by decide, rfl, Wd.t 173 (by decide +kernel) rfl⟩
theorem fl_Md_85 : FL "FileIndexerModel" 85 8 0 := ⟨by decide, by decide, rfl, Wd.t 696 (by decide +kernel) rfl⟩
theorem fl_Md_7 : FL "FileIndexerModel" 7 8 1 := ⟨by decide, by decide, rfl, Wd.t 697 (by decide +kernel) rfl⟩
theorem fl_Md_13 : FL "FileIndexerModel" 13 8 2 := ⟨by decide, by decide, rfl, Wd.t 698 (by decide +kernel) rfl⟩
theorem fl_Md_16 : FL "FileIndexerModel" 16 8 3 := ⟨by decide, by decide, rfl, Wd.t 699 (by decide +kernel) rfl⟩
theorem fl_Md_20 : FL "FileIndexerModel" 20 8 4 := ⟨by decide, by decide, rfl, Wd.t 700 (by decide +kernel) rfl⟩
theorem fl_Md_23 : FL "FileIndexerModel" 23 8 5 := ⟨by decide, by decide, rfl, Wd.t 701 (by decide +kernel) rfl⟩
theorem fl_Md_26 : FL "FileIndexerModel" 26 8 6 := ⟨by decide, by decide, rfl, Wd.t 702 (by decide +kernel) rfl⟩
theorem fl_Md_29 : FL "FileIndexerModel" 29 8 7 := ⟨by decide, by decide, rfl, Wd.t 703 (by decide +kernel) rfl⟩
theorem fl_Md_32 : FL "FileIndexerModel" 32 8 8 := ⟨by decide, by decide, rfl, Wd.t 704 (by decide +kernel) rfl⟩
theorem fl_Md_92 : FL "FileIndexerModel" 92 8 9 := ⟨by decide, by decide, rfl, Wd.t 705 (by decide +kernel) rfl⟩
theorem fl_Md_95 : FL "FileIndexerModel" 95 8 10 := ⟨by decide, by decide, rfl, Wd.t 706 (by decide +kernel) rfl⟩
theorem fl_Md_132 : FL "FileIndexerModel" 132 8 11 := ⟨by decide, by decide, rfl, Wd.t 707 (by decide +kernel) rfl⟩
theorem fl_Md_35 : FL "FileIndexerModel" 35 8 12 := ⟨by decide, by decide, rfl, Wd.t 708 (by decide +kernel) rfl⟩
theorem fl_Md_38 : FL "FileIndexerModel" 38 8 13 := ⟨by decide, by decide, rfl, Wd.t 709 (by decide +kernel) rfl⟩
theorem fl_Md_41 : FL "FileIndexerModel" 41 8 14 := ⟨by decide, by decide, rfl, Wd.t 710 (by decide +kernel) rfl⟩
theorem fl_Md_45 : FL "FileIndexerModel" 45 8 15 := ⟨by decide, by decide, rfl, Wd.t 711 (by decide +kernel) rfl⟩
theorem fl_Md_48 : FL "FileIndexerModel" 48 8 16 := ⟨by decide, by decide, rfl, Wd.t 712 (by decide +kernel) rfl⟩
theorem fl_Md_51 : FL "FileIndexerModel" 51 8 17 := ⟨by decide, by decide, rfl, Wd.t 713 (by decide +kernel) rfl⟩
theorem fl_Md_138 : FL "FileIndexerModel" 138 8 18 := ⟨by decide, by decide, rfl, Wd.t 714 (by decide +kernel) rfl⟩
theorem fl_Md_54 : FL "FileIndexerModel" 54 8 19 := ⟨by decide, by decide, rfl, Wd.t 715 (by decide +kernel) rfl⟩
theorem fl_Md_57 : FL "FileIndexerModel" 57 8 20 := ⟨by decide, by decide, rfl, Wd.t 716 (by decide +kernel) rfl⟩
theorem fl_Md_60 : FL "FileIndexerModel" 60 8 21 := ⟨by decide, by decide, rfl, Wd.t 717 (by decide +kernel) rfl⟩
theorem fl_Md_63 : FL "FileIndexerModel" 63 8 22 := ⟨by decide, by decide, rfl, Wd.t 718 (by decide +kernel) rfl⟩
theorem fl_Md_66 : FL "FileIndexerModel" 66 8 23 := ⟨by decide, by decide, rfl, Wd.t 719 (by decide +kernel) rfl⟩
theorem fl_Md_163 : FL "FileIndexerModel" 163 8 24 := ⟨by decide, by decide, rfl, Wd.t 720 (by decide +kernel) rfl⟩
theorem fl_Md_69 : FL "FileIndexerModel" 69 8 25 := ⟨by decide, by decide, rfl, Wd.t 721 (by decide +kernel) rfl⟩
theorem fl_Md_72 : FL "FileIndexerModel" 72 8 26 := ⟨by decide, by decide, rfl, Wd.t 722 (by decide +kernel) rfl⟩
theorem fl_Md_154 : FL "FileIndexerModel" 154 8 27 := ⟨by decide, by decide, rfl, Wd.t 723 (by decide +kernel) rfl⟩
theorem fl_Md_141 : FL "FileIndexerModel" 141 8 28 := ⟨by decide, by decide, rfl, Wd.t 724 (by decide +kernel) rfl⟩
theorem fl_Md_148 : FL "FileIndexerModel" 148 8 29 := ⟨by decide, by decide, rfl, Wd.t 725 (by decide +kernel) rfl⟩
theorem fl_Md_75 : FL "FileIndexerModel" 75 8 30 := ⟨by decide, by decide, rfl, Wd.t 726 (by decide +kernel) rfl⟩
theorem fl_Md_79 : FL "FileIndexerModel" 79 8 31 := ⟨by decide, by decide, rfl, Wd.t 727 (by decide +kernel) rfl⟩
theorem fl_Md_82 : FL "FileIndexerModel" 82 8 32 := ⟨by decide, by decide, rfl, Wd.t 728 (by decide +kernel) rfl⟩
theorem fl_Md_178 : FL "FileIndexerModel" 178 8 33 := ⟨by decide, by decide, rfl, Wd.t 729 (by decide +kernel) rfl⟩
theorem cs_Lw_55 : CsI "FileIndexerLaw" 55 k_Fi_init y_Fi_init 0 := ⟨cd_Fi_init, Or.inl (Wd.t 19 (by decide +kernel) rfl), Wd.t 20 (by decide +kernel) rfl, rfl, rfl, rfl, by decide +kernel⟩
theorem cs_Fi_9 : CsI "FileIndexer" 9 k_Tr_init y_Tr_init 0 := ⟨cd_Tr_init, Or.inl (Wd.t 27 (by decide +kernel) rfl), Wd.t 28 (by decide +kernel) rfl, rfl, rfl, rfl, by decide +kernel⟩
theorem cs_Fi_25 : CsI "FileIndexer" 25 k_Ix_init y_Ix_init 0 := ⟨cd_Ix_init, Or.inl (Wd.t 68 (by decide +kernel) rfl), Wd.t 69 (by decide +kernel) rfl, rfl, rfl, rfl, by decide +kernel⟩
theorem cs_Fi_32 : CsI "FileIndexer" 32 k_Qy_init y_Qy_init 0 := ⟨cd_Qy_init, Or.inl (Wd.t 103 (by decide +kernel) rfl), Wd.t 104 (by decide +kernel) rfl, rfl, rfl, rfl, by decide +kernel⟩
theorem cs_Lw_89 : CsV "FileIndexerLaw" 89 k_Fi_rescan y_Fi_rescan 0 := ⟨cd_Fi_rescan, Wd.t 187 (by decide +kernel) rfl, Wd.t 188 (by decide +kernel) rfl, Wd.t 189 (by decide +kernel) rfl, by decide +kernel⟩
theorem cs_Fi_75 : CsV "FileIndexer" 75 k_Tr_isFile y_Tr_isFile 1 := ⟨cd_Tr_isFile, Wd.t 191 (by decide +kernel) rfl, Wd.t 192 (by decide +kernel) rfl, Wd.t 193 (by decide +kernel) rfl, by decide +kernel⟩
theorem cs_Fi_139 : CsV "FileIndexer" 139 k_Fi_readFile y_Fi_readFile 1 := ⟨cd_Fi_readFile, Wd.t 198 (by decide +kernel) rfl, Wd.t 200 (by decide +kernel) rfl, ⟨by decide +kernel, rfl⟩, by decide +kernel⟩
theorem cs_Fi_197 : CsV "FileIndexer" 197 k_Tr_contentOf y_Tr_contentOf 1 := ⟨cd_Tr_contentOf, Wd.t 202 (by decide +kernel) rfl, Wd.t 203 (by decide +kernel) rfl, Wd.t 204 (by decide +kernel) rfl, by decide +kernel⟩
theorem cs_Fi_85 : CsV "FileIndexer" 85 k_Tr_lengthOf y_Tr_lengthOf 1 := ⟨cd_Tr_lengthOf, Wd.t 206 (by decide +kernel) rfl, Wd.t 207 (by decide +kernel) rfl, Wd.t 208 (by decide +kernel) rfl, by decide +kernel⟩
theorem cs_Fi_201 : CsV "FileIndexer" 201 k_Ix_read y_Ix_read 3 := ⟨cd_Ix_read, Wd.t 210 (by decide +kernel) rfl, Wd.t 211 (by decide +kernel) rfl, Wd.t 212 (by decide +kernel) rfl, by decide +kernel⟩
theorem cs_Ix_26 : CsV "FileIndexer$Index" 26 k_En_take y_En_take 2 := ⟨cd_En_take, Wd.t 214 (by decide +kernel) rfl, Wd.t 215 (by decide +kernel) rfl, Wd.t 216 (by decide +kernel) rfl, by decide +kernel⟩
theorem cs_En_23 : CsS "FileIndexer$Entry" 23 k_En_titleEndOf y_En_titleEndOf 2 := ⟨cd_En_titleEndOf, Wd.t 218 (by decide +kernel) rfl, Wd.t 219 (by decide +kernel) rfl, by decide +kernel⟩
theorem cs_En_35 : CsV "FileIndexer$Entry" 35 k_En_add y_En_add 2 := ⟨cd_En_add, Wd.t 227 (by decide +kernel) rfl, Wd.t 229 (by decide +kernel) rfl, ⟨by decide +kernel, rfl⟩, by decide +kernel⟩
theorem cs_Fi_142 : CsV "FileIndexer" 142 k_Ix_forget y_Ix_forget 1 := ⟨cd_Ix_forget, Wd.t 231 (by decide +kernel) rfl, Wd.t 232 (by decide +kernel) rfl, Wd.t 233 (by decide +kernel) rfl, by decide +kernel⟩
theorem cs_Fi_145 : CsV "FileIndexer" 145 k_Qu_startAnew y_Qu_startAnew 0 := ⟨cd_Qu_startAnew, Wd.t 235 (by decide +kernel) rfl, Wd.t 236 (by decide +kernel) rfl, Wd.t 237 (by decide +kernel) rfl, by decide +kernel⟩
theorem cs_Lw_99 : CsV "FileIndexerLaw" 99 k_Fi_fault y_Fi_fault 0 := ⟨cd_Fi_fault, Wd.t 239 (by decide +kernel) rfl, Wd.t 240 (by decide +kernel) rfl, Wd.t 241 (by decide +kernel) rfl, by decide +kernel⟩
theorem cs_Lw_59 : CsS "FileIndexerLaw" 59 k_Lw_make y_Lw_make 5 := ⟨cd_Lw_make, Wd.t 243 (by decide +kernel) rfl, Wd.t 244 (by decide +kernel) rfl, by decide +kernel⟩
theorem cs_Lw_7 : CsV "FileIndexerLaw" 7 k_Fi_make y_Fi_make 3 := ⟨cd_Fi_make, Wd.t 248 (by decide +kernel) rfl, Wd.t 249 (by decide +kernel) rfl, Wd.t 250 (by decide +kernel) rfl, by decide +kernel⟩
theorem cs_Fi_48 : CsS "FileIndexer" 48 k_Fi_isNodeBelowRoot y_Fi_isNodeBelowRoot 1 := ⟨cd_Fi_isNodeBelowRoot, Wd.t 252 (by decide +kernel) rfl, Wd.t 253 (by decide +kernel) rfl, by decide +kernel⟩
theorem cs_Fi_52 : CsS "FileIndexer" 52 k_Fi_isNode y_Fi_isNode 1 := ⟨cd_Fi_isNode, Wd.t 255 (by decide +kernel) rfl, Wd.t 196 (by decide +kernel) rfl, by decide +kernel⟩
theorem cs_Fi_58 : CsV "FileIndexer" 58 k_Tr_isThere y_Tr_isThere 1 := ⟨cd_Tr_isThere, Wd.t 319 (by decide +kernel) rfl, Wd.t 320 (by decide +kernel) rfl, Wd.t 321 (by decide +kernel) rfl, by decide +kernel⟩
theorem cs_Fi_61 : CsV "FileIndexer" 61 k_Tr_isFolder y_Tr_isFolder 1 := ⟨cd_Tr_isFolder, Wd.t 323 (by decide +kernel) rfl, Wd.t 324 (by decide +kernel) rfl, Wd.t 325 (by decide +kernel) rfl, by decide +kernel⟩
theorem cs_Fi_67 : CsV "FileIndexer" 67 k_Tr_put y_Tr_put 3 := ⟨cd_Tr_put, Wd.t 342 (by decide +kernel) rfl, Wd.t 343 (by decide +kernel) rfl, Wd.t 344 (by decide +kernel) rfl, by decide +kernel⟩
theorem cs_Fi_71 : CsV "FileIndexer" 71 k_Qu_tell y_Qu_tell 2 := ⟨cd_Qu_tell, Wd.t 346 (by decide +kernel) rfl, Wd.t 347 (by decide +kernel) rfl, Wd.t 348 (by decide +kernel) rfl, by decide +kernel⟩
theorem cs_Qu_26 : CsV "FileIndexer$Queue" 26 k_Qu_placeOf y_Qu_placeOf 1 := ⟨cd_Qu_placeOf, Wd.t 350 (by decide +kernel) rfl, Wd.t 352 (by decide +kernel) rfl, ⟨by decide +kernel, rfl⟩, by decide +kernel⟩
theorem cs_Qu_30 : CsV "FileIndexer$Queue" 30 k_Qu_putTogether y_Qu_putTogether 2 := ⟨cd_Qu_putTogether, Wd.t 354 (by decide +kernel) rfl, Wd.t 356 (by decide +kernel) rfl, ⟨by decide +kernel, rfl⟩, by decide +kernel⟩
theorem cs_Qu_34 : CsV "FileIndexer$Queue" 34 k_Qu_drop y_Qu_drop 1 := ⟨cd_Qu_drop, Wd.t 358 (by decide +kernel) rfl, Wd.t 359 (by decide +kernel) rfl, Wd.t 360 (by decide +kernel) rfl, by decide +kernel⟩
theorem cs_Lw_71 : CsS "FileIndexerLaw" 71 k_Lw_write y_Lw_write 5 := ⟨cd_Lw_write, Wd.t 362 (by decide +kernel) rfl, Wd.t 363 (by decide +kernel) rfl, by decide +kernel⟩
theorem cs_Lw_17 : CsV "FileIndexerLaw" 17 k_Fi_write y_Fi_write 3 := ⟨cd_Fi_write, Wd.t 366 (by decide +kernel) rfl, Wd.t 367 (by decide +kernel) rfl, Wd.t 368 (by decide +kernel) rfl, by decide +kernel⟩
theorem cs_Fi_81 : CsS "FileIndexer" 81 k_Fi_areCodes y_Fi_areCodes 2 := ⟨cd_Fi_areCodes, Wd.t 385 (by decide +kernel) rfl, Wd.t 386 (by decide +kernel) rfl, by decide +kernel⟩
theorem cs_Fi_89 : CsS "FileIndexer" 89 k_Fi_byteOf y_Fi_byteOf 2 := ⟨cd_Fi_byteOf, Wd.t 388 (by decide +kernel) rfl, Wd.t 389 (by decide +kernel) rfl, by decide +kernel⟩
theorem cs_Fi_148 : CsS "FileIndexer" 148 k_Fi_isCode y_Fi_isCode 1 := ⟨cd_Fi_isCode, Wd.t 391 (by decide +kernel) rfl, Wd.t 392 (by decide +kernel) rfl, by decide +kernel⟩
theorem cs_Fi_93 : CsV "FileIndexer" 93 k_Tr_append y_Tr_append 2 := ⟨cd_Tr_append, Wd.t 394 (by decide +kernel) rfl, Wd.t 395 (by decide +kernel) rfl, Wd.t 396 (by decide +kernel) rfl, by decide +kernel⟩
theorem cs_Lw_75 : CsS "FileIndexerLaw" 75 k_Lw_cut y_Lw_cut 4 := ⟨cd_Lw_cut, Wd.t 398 (by decide +kernel) rfl, Wd.t 399 (by decide +kernel) rfl, by decide +kernel⟩
theorem cs_Lw_23 : CsV "FileIndexerLaw" 23 k_Fi_cut y_Fi_cut 2 := ⟨cd_Fi_cut, Wd.t 401 (by decide +kernel) rfl, Wd.t 402 (by decide +kernel) rfl, Wd.t 403 (by decide +kernel) rfl, by decide +kernel⟩
theorem cs_Fi_96 : CsV "FileIndexer" 96 k_Tr_shorten y_Tr_shorten 2 := ⟨cd_Tr_shorten, Wd.t 405 (by decide +kernel) rfl, Wd.t 406 (by decide +kernel) rfl, Wd.t 407 (by decide +kernel) rfl, by decide +kernel⟩
theorem cs_Lw_79 : CsS "FileIndexerLaw" 79 k_Lw_remove y_Lw_remove 3 := ⟨cd_Lw_remove, Wd.t 409 (by decide +kernel) rfl, Wd.t 410 (by decide +kernel) rfl, by decide +kernel⟩
theorem cs_Lw_27 : CsV "FileIndexerLaw" 27 k_Fi_remove y_Fi_remove 1 := ⟨cd_Fi_remove, Wd.t 412 (by decide +kernel) rfl, Wd.t 413 (by decide +kernel) rfl, Wd.t 414 (by decide +kernel) rfl, by decide +kernel⟩
theorem cs_Fi_99 : CsV "FileIndexer" 99 k_Tr_isWithin y_Tr_isWithin 2 := ⟨cd_Tr_isWithin, Wd.t 416 (by decide +kernel) rfl, Wd.t 417 (by decide +kernel) rfl, Wd.t 418 (by decide +kernel) rfl, by decide +kernel⟩
theorem cs_Tr_30 : CsV "FileIndexer$Tree" 30 k_Tr_isThere y_Tr_isThere 1 := ⟨cd_Tr_isThere, Wd.t 420 (by decide +kernel) rfl, Wd.t 320 (by decide +kernel) rfl, Wd.t 321 (by decide +kernel) rfl, by decide +kernel⟩
theorem cs_Fi_103 : CsV "FileIndexer" 103 k_Fi_removeOne y_Fi_removeOne 1 := ⟨cd_Fi_removeOne, Wd.t 421 (by decide +kernel) rfl, Wd.t 423 (by decide +kernel) rfl, ⟨by decide +kernel, rfl⟩, by decide +kernel⟩
theorem cs_Fi_196 : CsV "FileIndexer" 196 k_Tr_drop y_Tr_drop 1 := ⟨cd_Tr_drop, Wd.t 425 (by decide +kernel) rfl, Wd.t 426 (by decide +kernel) rfl, Wd.t 427 (by decide +kernel) rfl, by decide +kernel⟩
theorem cs_Lw_83 : CsS "FileIndexerLaw" 83 k_Lw_move y_Lw_move 4 := ⟨cd_Lw_move, Wd.t 429 (by decide +kernel) rfl, Wd.t 430 (by decide +kernel) rfl, by decide +kernel⟩
theorem cs_Lw_31 : CsV "FileIndexerLaw" 31 k_Fi_move y_Fi_move 2 := ⟨cd_Fi_move, Wd.t 432 (by decide +kernel) rfl, Wd.t 433 (by decide +kernel) rfl, Wd.t 434 (by decide +kernel) rfl, by decide +kernel⟩
theorem cs_Fi_107 : CsV "FileIndexer" 107 k_Tr_parentOf y_Tr_parentOf 1 := ⟨cd_Tr_parentOf, Wd.t 436 (by decide +kernel) rfl, Wd.t 437 (by decide +kernel) rfl, Wd.t 438 (by decide +kernel) rfl, by decide +kernel⟩
theorem cs_Fi_110 : CsV "FileIndexer" 110 k_Tr_hang y_Tr_hang 2 := ⟨cd_Tr_hang, Wd.t 440 (by decide +kernel) rfl, Wd.t 441 (by decide +kernel) rfl, Wd.t 442 (by decide +kernel) rfl, by decide +kernel⟩
theorem cs_Lw_86 : CsS "FileIndexerLaw" 86 k_Lw_work y_Lw_work 3 := ⟨cd_Lw_work, Wd.t 444 (by decide +kernel) rfl, Wd.t 445 (by decide +kernel) rfl, by decide +kernel⟩
theorem cs_Lw_34 : CsV "FileIndexerLaw" 34 k_Fi_work y_Fi_work 1 := ⟨cd_Fi_work, Wd.t 447 (by decide +kernel) rfl, Wd.t 448 (by decide +kernel) rfl, Wd.t 449 (by decide +kernel) rfl, by decide +kernel⟩
theorem cs_Fi_113 : CsV "FileIndexer" 113 k_Qu_isLost y_Qu_isLost 0 := ⟨cd_Qu_isLost, Wd.t 451 (by decide +kernel) rfl, Wd.t 452 (by decide +kernel) rfl, Wd.t 453 (by decide +kernel) rfl, by decide +kernel⟩
theorem cs_Fi_117 : CsV "FileIndexer" 117 k_Qu_size y_Qu_size 0 := ⟨cd_Qu_size, Wd.t 455 (by decide +kernel) rfl, Wd.t 456 (by decide +kernel) rfl, Wd.t 457 (by decide +kernel) rfl, by decide +kernel⟩
theorem wm_Fi_121 : Wd (.methodLink "FileIndexer" 121 y_Mt_min) := Wd.t 459 (by decide +kernel) rfl
theorem ws_Mt_min : Wd (.static y_Mt_min) := Wd.t 460 (by decide +kernel) rfl
theorem cs_Fi_127 : CsV "FileIndexer" 127 k_Qu_kindAt y_Qu_kindAt 1 := ⟨cd_Qu_kindAt, Wd.t 462 (by decide +kernel) rfl, Wd.t 463 (by decide +kernel) rfl, Wd.t 464 (by decide +kernel) rfl, by decide +kernel⟩
theorem cs_Fi_130 : CsV "FileIndexer" 130 k_Qu_fileAt y_Qu_fileAt 1 := ⟨cd_Qu_fileAt, Wd.t 466 (by decide +kernel) rfl, Wd.t 467 (by decide +kernel) rfl, Wd.t 468 (by decide +kernel) rfl, by decide +kernel⟩
theorem cs_Fi_133 : CsV "FileIndexer" 133 k_Fi_follow y_Fi_follow 2 := ⟨cd_Fi_follow, Wd.t 470 (by decide +kernel) rfl, Wd.t 472 (by decide +kernel) rfl, ⟨by decide +kernel, rfl⟩, by decide +kernel⟩
theorem cs_Fi_136 : CsV "FileIndexer" 136 k_Qu_drop y_Qu_drop 1 := ⟨cd_Qu_drop, Wd.t 474 (by decide +kernel) rfl, Wd.t 359 (by decide +kernel) rfl, Wd.t 360 (by decide +kernel) rfl, by decide +kernel⟩
theorem cs_Lw_93 : CsS "FileIndexerLaw" 93 k_Lw_type y_Lw_type 3 := ⟨cd_Lw_type, Wd.t 475 (by decide +kernel) rfl, Wd.t 476 (by decide +kernel) rfl, by decide +kernel⟩
theorem cs_Lw_37 : CsV "FileIndexerLaw" 37 k_Fi_type y_Fi_type 1 := ⟨cd_Fi_type, Wd.t 478 (by decide +kernel) rfl, Wd.t 479 (by decide +kernel) rfl, Wd.t 480 (by decide +kernel) rfl, by decide +kernel⟩
theorem cs_Fi_151 : CsV "FileIndexer" 151 k_Qy_length y_Qy_length 0 := ⟨cd_Qy_length, Wd.t 482 (by decide +kernel) rfl, Wd.t 483 (by decide +kernel) rfl, Wd.t 484 (by decide +kernel) rfl, by decide +kernel⟩
theorem cs_Fi_154 : CsV "FileIndexer" 154 k_Qy_append y_Qy_append 1 := ⟨cd_Qy_append, Wd.t 486 (by decide +kernel) rfl, Wd.t 487 (by decide +kernel) rfl, Wd.t 488 (by decide +kernel) rfl, by decide +kernel⟩
theorem cs_Lw_96 : CsS "FileIndexerLaw" 96 k_Lw_search y_Lw_search 3 := ⟨cd_Lw_search, Wd.t 490 (by decide +kernel) rfl, Wd.t 491 (by decide +kernel) rfl, by decide +kernel⟩
theorem cs_Lw_40 : CsV "FileIndexerLaw" 40 k_Fi_search y_Fi_search 1 := ⟨cd_Fi_search, Wd.t 493 (by decide +kernel) rfl, Wd.t 494 (by decide +kernel) rfl, Wd.t 495 (by decide +kernel) rfl, by decide +kernel⟩
theorem cs_Fi_156 : CsV "FileIndexer" 156 k_Rk_clear y_Rk_clear 0 := ⟨cd_Rk_clear, Wd.t 497 (by decide +kernel) rfl, Wd.t 498 (by decide +kernel) rfl, Wd.t 499 (by decide +kernel) rfl, by decide +kernel⟩
theorem cs_Fi_159 : CsV "FileIndexer" 159 k_Qy_parse y_Qy_parse 0 := ⟨cd_Qy_parse, Wd.t 501 (by decide +kernel) rfl, Wd.t 502 (by decide +kernel) rfl, Wd.t 503 (by decide +kernel) rfl, by decide +kernel⟩
theorem cs_Qy_38 : CsV "FileIndexer$Query" 38 k_Qy_parseAlternative y_Qy_parseAlternative 0 := ⟨cd_Qy_parseAlternative, Wd.t 505 (by decide +kernel) rfl, Wd.t 507 (by decide +kernel) rfl, ⟨by decide +kernel, rfl⟩, by decide +kernel⟩
theorem cs_Qy_70 : CsV "FileIndexer$Query" 70 k_Qy_skipBlanks y_Qy_skipBlanks 0 := ⟨cd_Qy_skipBlanks, Wd.t 509 (by decide +kernel) rfl, Wd.t 511 (by decide +kernel) rfl, ⟨by decide +kernel, rfl⟩, by decide +kernel⟩
theorem cs_Qy_73 : CsV "FileIndexer$Query" 73 k_Qy_parseTerm y_Qy_parseTerm 0 := ⟨cd_Qy_parseTerm, Wd.t 513 (by decide +kernel) rfl, Wd.t 515 (by decide +kernel) rfl, ⟨by decide +kernel, rfl⟩, by decide +kernel⟩
theorem cs_Qy_79 : CsV "FileIndexer$Query" 79 k_Tm_begin y_Tm_begin 1 := ⟨cd_Tm_begin, Wd.t 517 (by decide +kernel) rfl, Wd.t 518 (by decide +kernel) rfl, Wd.t 519 (by decide +kernel) rfl, by decide +kernel⟩
theorem cs_Qy_45 : CsV "FileIndexer$Query" 45 k_Qy_next y_Qy_next 0 := ⟨cd_Qy_next, Wd.t 522 (by decide +kernel) rfl, Wd.t 524 (by decide +kernel) rfl, ⟨by decide +kernel, rfl⟩, by decide +kernel⟩
theorem cs_Qy_83 : CsV "FileIndexer$Query" 83 k_Tm_forbid y_Tm_forbid 0 := ⟨cd_Tm_forbid, Wd.t 526 (by decide +kernel) rfl, Wd.t 527 (by decide +kernel) rfl, Wd.t 528 (by decide +kernel) rfl, by decide +kernel⟩
theorem cs_Qy_86 : CsV "FileIndexer$Query" 86 k_Qy_parsePhrase y_Qy_parsePhrase 1 := ⟨cd_Qy_parsePhrase, Wd.t 530 (by decide +kernel) rfl, Wd.t 532 (by decide +kernel) rfl, ⟨by decide +kernel, rfl⟩, by decide +kernel⟩
theorem cs_Qy_41 : CsV "FileIndexer$Query" 41 k_Qy_isFaulty y_Qy_isFaulty 0 := ⟨cd_Qy_isFaulty, Wd.t 534 (by decide +kernel) rfl, Wd.t 536 (by decide +kernel) rfl, ⟨by decide +kernel, rfl⟩, by decide +kernel⟩
theorem cs_Qy_96 : CsV "FileIndexer$Query" 96 k_Qy_parseWord y_Qy_parseWord 1 := ⟨cd_Qy_parseWord, Wd.t 539 (by decide +kernel) rfl, Wd.t 541 (by decide +kernel) rfl, ⟨by decide +kernel, rfl⟩, by decide +kernel⟩
theorem cs_Qy_112 : CsV "FileIndexer$Query" 112 k_Tm_add y_Tm_add 1 := ⟨cd_Tm_add, Wd.t 544 (by decide +kernel) rfl, Wd.t 545 (by decide +kernel) rfl, Wd.t 546 (by decide +kernel) rfl, by decide +kernel⟩
theorem cs_Qy_105 : CsV "FileIndexer$Query" 105 k_Tm_isEmpty y_Tm_isEmpty 0 := ⟨cd_Tm_isEmpty, Wd.t 548 (by decide +kernel) rfl, Wd.t 549 (by decide +kernel) rfl, Wd.t 550 (by decide +kernel) rfl, by decide +kernel⟩
theorem cs_Qy_90 : CsV "FileIndexer$Query" 90 k_Qy_parseWordOrBeginning y_Qy_parseWordOrBeginning 1 := ⟨cd_Qy_parseWordOrBeginning, Wd.t 552 (by decide +kernel) rfl, Wd.t 554 (by decide +kernel) rfl, ⟨by decide +kernel, rfl⟩, by decide +kernel⟩
theorem cs_Qy_99 : CsV "FileIndexer$Query" 99 k_Tm_compareOnly y_Tm_compareOnly 1 := ⟨cd_Tm_compareOnly, Wd.t 556 (by decide +kernel) rfl, Wd.t 557 (by decide +kernel) rfl, Wd.t 558 (by decide +kernel) rfl, by decide +kernel⟩
theorem cs_Qy_93 : CsV "FileIndexer$Query" 93 k_Qy_endTerm y_Qy_endTerm 0 := ⟨cd_Qy_endTerm, Wd.t 560 (by decide +kernel) rfl, Wd.t 562 (by decide +kernel) rfl, ⟨by decide +kernel, rfl⟩, by decide +kernel⟩
theorem cs_Qy_76 : CsV "FileIndexer$Query" 76 k_Qy_atAlternativeEnd y_Qy_atAlternativeEnd 0 := ⟨cd_Qy_atAlternativeEnd, Wd.t 564 (by decide +kernel) rfl, Wd.t 566 (by decide +kernel) rfl, ⟨by decide +kernel, rfl⟩, by decide +kernel⟩
theorem cs_Fi_162 : CsV "FileIndexer" 162 k_Qy_clearText y_Qy_clearText 0 := ⟨cd_Qy_clearText, Wd.t 568 (by decide +kernel) rfl, Wd.t 569 (by decide +kernel) rfl, Wd.t 570 (by decide +kernel) rfl, by decide +kernel⟩
theorem cs_Fi_165 : CsV "FileIndexer" 165 k_Ix_has y_Ix_has 1 := ⟨cd_Ix_has, Wd.t 572 (by decide +kernel) rfl, Wd.t 573 (by decide +kernel) rfl, Wd.t 574 (by decide +kernel) rfl, by decide +kernel⟩
theorem cs_Fi_168 : CsV "FileIndexer" 168 k_Fi_isSearched y_Fi_isSearched 2 := ⟨cd_Fi_isSearched, Wd.t 577 (by decide +kernel) rfl, Wd.t 579 (by decide +kernel) rfl, ⟨by decide +kernel, rfl⟩, by decide +kernel⟩
theorem cs_Fi_171 : CsV "FileIndexer" 171 k_Fi_rank y_Fi_rank 1 := ⟨cd_Fi_rank, Wd.t 581 (by decide +kernel) rfl, Wd.t 583 (by decide +kernel) rfl, ⟨by decide +kernel, rfl⟩, by decide +kernel⟩
theorem cs_Fi_179 : CsV "FileIndexer" 179 k_Ix_entryOf y_Ix_entryOf 1 := ⟨cd_Ix_entryOf, Wd.t 585 (by decide +kernel) rfl, Wd.t 586 (by decide +kernel) rfl, Wd.t 587 (by decide +kernel) rfl, by decide +kernel⟩
theorem cs_Fi_205 : CsV "FileIndexer" 205 k_Qy_scoreOf y_Qy_scoreOf 1 := ⟨cd_Qy_scoreOf, Wd.t 589 (by decide +kernel) rfl, Wd.t 590 (by decide +kernel) rfl, Wd.t 591 (by decide +kernel) rfl, by decide +kernel⟩
theorem cs_Qy_49 : CsV "FileIndexer$Query" 49 k_Qy_partOf y_Qy_partOf 2 := ⟨cd_Qy_partOf, Wd.t 593 (by decide +kernel) rfl, Wd.t 595 (by decide +kernel) rfl, ⟨by decide +kernel, rfl⟩, by decide +kernel⟩
theorem cs_Qy_59 : CsV "FileIndexer$Query" 59 k_Tm_isOf y_Tm_isOf 1 := ⟨cd_Tm_isOf, Wd.t 597 (by decide +kernel) rfl, Wd.t 598 (by decide +kernel) rfl, Wd.t 599 (by decide +kernel) rfl, by decide +kernel⟩
theorem cs_Qy_63 : CsV "FileIndexer$Query" 63 k_Tm_weightIn y_Tm_weightIn 1 := ⟨cd_Tm_weightIn, Wd.t 601 (by decide +kernel) rfl, Wd.t 602 (by decide +kernel) rfl, Wd.t 603 (by decide +kernel) rfl, by decide +kernel⟩
theorem cs_Tm_32 : CsV "FileIndexer$Term" 32 k_En_size y_En_size 0 := ⟨cd_En_size, Wd.t 605 (by decide +kernel) rfl, Wd.t 606 (by decide +kernel) rfl, Wd.t 607 (by decide +kernel) rfl, by decide +kernel⟩
theorem cs_Tm_37 : CsV "FileIndexer$Term" 37 k_Tm_hits y_Tm_hits 2 := ⟨cd_Tm_hits, Wd.t 609 (by decide +kernel) rfl, Wd.t 611 (by decide +kernel) rfl, ⟨by decide +kernel, rfl⟩, by decide +kernel⟩
theorem cs_Tm_45 : CsV "FileIndexer$Term" 45 k_En_wordAt y_En_wordAt 1 := ⟨cd_En_wordAt, Wd.t 613 (by decide +kernel) rfl, Wd.t 614 (by decide +kernel) rfl, Wd.t 615 (by decide +kernel) rfl, by decide +kernel⟩
theorem cs_Tm_41 : CsV "FileIndexer$Term" 41 k_En_weightAt y_En_weightAt 1 := ⟨cd_En_weightAt, Wd.t 617 (by decide +kernel) rfl, Wd.t 618 (by decide +kernel) rfl, Wd.t 619 (by decide +kernel) rfl, by decide +kernel⟩
theorem cs_Qy_67 : CsV "FileIndexer$Query" 67 k_Tm_isUnwanted y_Tm_isUnwanted 0 := ⟨cd_Tm_isUnwanted, Wd.t 621 (by decide +kernel) rfl, Wd.t 622 (by decide +kernel) rfl, Wd.t 623 (by decide +kernel) rfl, by decide +kernel⟩
theorem wm_Qy_53 : Wd (.methodLink "FileIndexer$Query" 53 y_Mt_max) := Wd.t 625 (by decide +kernel) rfl
theorem ws_Mt_max : Wd (.static y_Mt_max) := Wd.t 626 (by decide +kernel) rfl
theorem cs_Fi_209 : CsV "FileIndexer" 209 k_Rk_add y_Rk_add 2 := ⟨cd_Rk_add, Wd.t 628 (by decide +kernel) rfl, Wd.t 629 (by decide +kernel) rfl, Wd.t 630 (by decide +kernel) rfl, by decide +kernel⟩
theorem cs_Fi_174 : CsV "FileIndexer" 174 k_Rk_size y_Rk_size 0 := ⟨cd_Rk_size, Wd.t 632 (by decide +kernel) rfl, Wd.t 633 (by decide +kernel) rfl, Wd.t 634 (by decide +kernel) rfl, by decide +kernel⟩
theorem cs_Lw_103 : CsS "FileIndexerLaw" 103 k_Lw_result y_Lw_result 4 := ⟨cd_Lw_result, Wd.t 636 (by decide +kernel) rfl, Wd.t 637 (by decide +kernel) rfl, by decide +kernel⟩
theorem cs_Lw_43 : CsV "FileIndexerLaw" 43 k_Fi_result y_Fi_result 2 := ⟨cd_Fi_result, Wd.t 639 (by decide +kernel) rfl, Wd.t 640 (by decide +kernel) rfl, Wd.t 641 (by decide +kernel) rfl, by decide +kernel⟩
theorem cs_Fi_175 : CsV "FileIndexer" 175 k_Rk_fileAt y_Rk_fileAt 1 := ⟨cd_Rk_fileAt, Wd.t 643 (by decide +kernel) rfl, Wd.t 644 (by decide +kernel) rfl, Wd.t 645 (by decide +kernel) rfl, by decide +kernel⟩
theorem cs_Fi_176 : CsV "FileIndexer" 176 k_Rk_scoreAt y_Rk_scoreAt 1 := ⟨cd_Rk_scoreAt, Wd.t 647 (by decide +kernel) rfl, Wd.t 648 (by decide +kernel) rfl, Wd.t 649 (by decide +kernel) rfl, by decide +kernel⟩
theorem cs_Lw_106 : CsS "FileIndexerLaw" 106 k_Lw_words y_Lw_words 3 := ⟨cd_Lw_words, Wd.t 651 (by decide +kernel) rfl, Wd.t 652 (by decide +kernel) rfl, by decide +kernel⟩
theorem cs_Lw_46 : CsV "FileIndexerLaw" 46 k_Fi_words y_Fi_words 1 := ⟨cd_Fi_words, Wd.t 654 (by decide +kernel) rfl, Wd.t 655 (by decide +kernel) rfl, Wd.t 656 (by decide +kernel) rfl, by decide +kernel⟩
theorem cs_Fi_183 : CsV "FileIndexer" 183 k_En_size y_En_size 0 := ⟨cd_En_size, Wd.t 658 (by decide +kernel) rfl, Wd.t 606 (by decide +kernel) rfl, Wd.t 607 (by decide +kernel) rfl, by decide +kernel⟩
theorem cs_Lw_109 : CsS "FileIndexerLaw" 109 k_Lw_event y_Lw_event 3 := ⟨cd_Lw_event, Wd.t 659 (by decide +kernel) rfl, Wd.t 660 (by decide +kernel) rfl, by decide +kernel⟩
theorem cs_Lw_49 : CsV "FileIndexerLaw" 49 k_Fi_event y_Fi_event 1 := ⟨cd_Fi_event, Wd.t 662 (by decide +kernel) rfl, Wd.t 663 (by decide +kernel) rfl, Wd.t 664 (by decide +kernel) rfl, by decide +kernel⟩
theorem cs_Lw_112 : CsS "FileIndexerLaw" 112 k_Lw_count y_Lw_count 3 := ⟨cd_Lw_count, Wd.t 666 (by decide +kernel) rfl, Wd.t 667 (by decide +kernel) rfl, by decide +kernel⟩
theorem cs_Lw_52 : CsV "FileIndexerLaw" 52 k_Fi_count y_Fi_count 1 := ⟨cd_Fi_count, Wd.t 669 (by decide +kernel) rfl, Wd.t 670 (by decide +kernel) rfl, Wd.t 671 (by decide +kernel) rfl, by decide +kernel⟩
theorem cs_Fi_186 : CsV "FileIndexer" 186 k_Tr_nodesThere y_Tr_nodesThere 0 := ⟨cd_Tr_nodesThere, Wd.t 673 (by decide +kernel) rfl, Wd.t 674 (by decide +kernel) rfl, Wd.t 675 (by decide +kernel) rfl, by decide +kernel⟩
theorem cs_Fi_189 : CsV "FileIndexer" 189 k_Tr_filesThere y_Tr_filesThere 0 := ⟨cd_Tr_filesThere, Wd.t 677 (by decide +kernel) rfl, Wd.t 678 (by decide +kernel) rfl, Wd.t 679 (by decide +kernel) rfl, by decide +kernel⟩
theorem cs_Tr_33 : CsV "FileIndexer$Tree" 33 k_Tr_isFile y_Tr_isFile 1 := ⟨cd_Tr_isFile, Wd.t 681 (by decide +kernel) rfl, Wd.t 192 (by decide +kernel) rfl, Wd.t 193 (by decide +kernel) rfl, by decide +kernel⟩
theorem cs_Fi_192 : CsV "FileIndexer" 192 k_Ix_size y_Ix_size 0 := ⟨cd_Ix_size, Wd.t 682 (by decide +kernel) rfl, Wd.t 683 (by decide +kernel) rfl, Wd.t 684 (by decide +kernel) rfl, by decide +kernel⟩
theorem cs_Fi_193 : CsV "FileIndexer" 193 k_Ix_timesRead y_Ix_timesRead 0 := ⟨cd_Ix_timesRead, Wd.t 686 (by decide +kernel) rfl, Wd.t 687 (by decide +kernel) rfl, Wd.t 688 (by decide +kernel) rfl, by decide +kernel⟩
theorem cs_Lw_58 : CsI "FileIndexerLaw" 58 k_Md_init y_Md_init 0 := ⟨cd_Md_init, Or.inl (Wd.t 692 (by decide +kernel) rfl), Wd.t 693 (by decide +kernel) rfl, rfl, rfl, rfl, by decide +kernel⟩
theorem cs_Lw_65 : CsV "FileIndexerLaw" 65 k_Md_thrown y_Md_thrown 0 := ⟨cd_Md_thrown, Wd.t 799 (by decide +kernel) rfl, Wd.t 800 (by decide +kernel) rfl, Wd.t 801 (by decide +kernel) rfl, by decide +kernel⟩
theorem cs_Lw_64 : CsV "FileIndexerLaw" 64 k_Md_make y_Md_make 3 := ⟨cd_Md_make, Wd.t 803 (by decide +kernel) rfl, Wd.t 804 (by decide +kernel) rfl, Wd.t 805 (by decide +kernel) rfl, by decide +kernel⟩
theorem cs_Md_88 : CsS "FileIndexerModel" 88 k_Md_in y_Md_in 3 := ⟨cd_Md_in, Wd.t 807 (by decide +kernel) rfl, Wd.t 808 (by decide +kernel) rfl, by decide +kernel⟩
theorem cs_Md_107 : CsV "FileIndexerModel" 107 k_Md_raise y_Md_raise 1 := ⟨cd_Md_raise, Wd.t 810 (by decide +kernel) rfl, Wd.t 812 (by decide +kernel) rfl, ⟨by decide +kernel, rfl⟩, by decide +kernel⟩
theorem cs_Md_111 : CsV "FileIndexerModel" 111 k_Md_isFolder y_Md_isFolder 1 := ⟨cd_Md_isFolder, Wd.t 814 (by decide +kernel) rfl, Wd.t 816 (by decide +kernel) rfl, ⟨by decide +kernel, rfl⟩, by decide +kernel⟩
theorem cs_Md_115 : CsV "FileIndexerModel" 115 k_Md_tell y_Md_tell 2 := ⟨cd_Md_tell, Wd.t 818 (by decide +kernel) rfl, Wd.t 820 (by decide +kernel) rfl, ⟨by decide +kernel, rfl⟩, by decide +kernel⟩
theorem cs_Md_99 : CsS "FileIndexerModel" 99 k_Md_together y_Md_together 2 := ⟨cd_Md_together, Wd.t 822 (by decide +kernel) rfl, Wd.t 823 (by decide +kernel) rfl, by decide +kernel⟩
theorem cs_Md_103 : CsV "FileIndexerModel" 103 k_Md_drop y_Md_drop 1 := ⟨cd_Md_drop, Wd.t 825 (by decide +kernel) rfl, Wd.t 827 (by decide +kernel) rfl, ⟨by decide +kernel, rfl⟩, by decide +kernel⟩
theorem cs_Lw_74 : CsV "FileIndexerLaw" 74 k_Md_write y_Md_write 3 := ⟨cd_Md_write, Wd.t 829 (by decide +kernel) rfl, Wd.t 830 (by decide +kernel) rfl, Wd.t 831 (by decide +kernel) rfl, by decide +kernel⟩
theorem cs_Md_119 : CsV "FileIndexerModel" 119 k_Md_isFile y_Md_isFile 1 := ⟨cd_Md_isFile, Wd.t 833 (by decide +kernel) rfl, Wd.t 835 (by decide +kernel) rfl, ⟨by decide +kernel, rfl⟩, by decide +kernel⟩
theorem cs_Lw_78 : CsV "FileIndexerLaw" 78 k_Md_cut y_Md_cut 2 := ⟨cd_Md_cut, Wd.t 837 (by decide +kernel) rfl, Wd.t 838 (by decide +kernel) rfl, Wd.t 839 (by decide +kernel) rfl, by decide +kernel⟩
theorem cs_Lw_82 : CsV "FileIndexerLaw" 82 k_Md_remove y_Md_remove 1 := ⟨cd_Md_remove, Wd.t 841 (by decide +kernel) rfl, Wd.t 842 (by decide +kernel) rfl, Wd.t 843 (by decide +kernel) rfl, by decide +kernel⟩
theorem cs_Md_122 : CsV "FileIndexerModel" 122 k_Md_mark y_Md_mark 1 := ⟨cd_Md_mark, Wd.t 845 (by decide +kernel) rfl, Wd.t 847 (by decide +kernel) rfl, ⟨by decide +kernel, rfl⟩, by decide +kernel⟩
theorem cs_Md_125 : CsV "FileIndexerModel" 125 k_Md_within y_Md_within 2 := ⟨cd_Md_within, Wd.t 849 (by decide +kernel) rfl, Wd.t 851 (by decide +kernel) rfl, ⟨by decide +kernel, rfl⟩, by decide +kernel⟩
theorem cs_Lw_85 : CsV "FileIndexerLaw" 85 k_Md_move y_Md_move 2 := ⟨cd_Md_move, Wd.t 853 (by decide +kernel) rfl, Wd.t 854 (by decide +kernel) rfl, Wd.t 855 (by decide +kernel) rfl, by decide +kernel⟩
theorem cs_Lw_88 : CsV "FileIndexerLaw" 88 k_Md_work y_Md_work 1 := ⟨cd_Md_work, Wd.t 857 (by decide +kernel) rfl, Wd.t 858 (by decide +kernel) rfl, Wd.t 859 (by decide +kernel) rfl, by decide +kernel⟩
theorem cs_Md_135 : CsV "FileIndexerModel" 135 k_Md_read y_Md_read 1 := ⟨cd_Md_read, Wd.t 861 (by decide +kernel) rfl, Wd.t 863 (by decide +kernel) rfl, ⟨by decide +kernel, rfl⟩, by decide +kernel⟩
theorem cs_Md_129 : CsS "FileIndexerModel" 129 k_Md_letter y_Md_letter 1 := ⟨cd_Md_letter, Wd.t 865 (by decide +kernel) rfl, Wd.t 866 (by decide +kernel) rfl, by decide +kernel⟩
theorem cs_Lw_92 : CsV "FileIndexerLaw" 92 k_Md_rescan y_Md_rescan 0 := ⟨cd_Md_rescan, Wd.t 868 (by decide +kernel) rfl, Wd.t 869 (by decide +kernel) rfl, Wd.t 870 (by decide +kernel) rfl, by decide +kernel⟩
theorem cs_Lw_95 : CsV "FileIndexerLaw" 95 k_Md_type y_Md_type 1 := ⟨cd_Md_type, Wd.t 872 (by decide +kernel) rfl, Wd.t 873 (by decide +kernel) rfl, Wd.t 874 (by decide +kernel) rfl, by decide +kernel⟩
theorem cs_Lw_98 : CsV "FileIndexerLaw" 98 k_Md_search y_Md_search 1 := ⟨cd_Md_search, Wd.t 876 (by decide +kernel) rfl, Wd.t 877 (by decide +kernel) rfl, Wd.t 878 (by decide +kernel) rfl, by decide +kernel⟩
theorem cs_Md_181 : CsV "FileIndexerModel" 181 k_Md_parse y_Md_parse 0 := ⟨cd_Md_parse, Wd.t 880 (by decide +kernel) rfl, Wd.t 882 (by decide +kernel) rfl, ⟨by decide +kernel, rfl⟩, by decide +kernel⟩
theorem cs_Md_157 : CsV "FileIndexerModel" 157 k_Md_blanks y_Md_blanks 0 := ⟨cd_Md_blanks, Wd.t 884 (by decide +kernel) rfl, Wd.t 886 (by decide +kernel) rfl, ⟨by decide +kernel, rfl⟩, by decide +kernel⟩
theorem cs_Md_144 : CsV "FileIndexerModel" 144 k_Md_now y_Md_now 0 := ⟨cd_Md_now, Wd.t 888 (by decide +kernel) rfl, Wd.t 890 (by decide +kernel) rfl, ⟨by decide +kernel, rfl⟩, by decide +kernel⟩
theorem cs_Md_169 : CsV "FileIndexerModel" 169 k_Md_takeTerm y_Md_takeTerm 1 := ⟨cd_Md_takeTerm, Wd.t 892 (by decide +kernel) rfl, Wd.t 894 (by decide +kernel) rfl, ⟨by decide +kernel, rfl⟩, by decide +kernel⟩
theorem cs_Md_166 : CsV "FileIndexerModel" 166 k_Md_takePhrase y_Md_takePhrase 0 := ⟨cd_Md_takePhrase, Wd.t 896 (by decide +kernel) rfl, Wd.t 898 (by decide +kernel) rfl, ⟨by decide +kernel, rfl⟩, by decide +kernel⟩
theorem cs_Md_151 : CsV "FileIndexerModel" 151 k_Md_blame y_Md_blame 0 := ⟨cd_Md_blame, Wd.t 900 (by decide +kernel) rfl, Wd.t 902 (by decide +kernel) rfl, ⟨by decide +kernel, rfl⟩, by decide +kernel⟩
theorem cs_Md_160 : CsV "FileIndexerModel" 160 k_Md_takeWord y_Md_takeWord 0 := ⟨cd_Md_takeWord, Wd.t 904 (by decide +kernel) rfl, Wd.t 906 (by decide +kernel) rfl, ⟨by decide +kernel, rfl⟩, by decide +kernel⟩
theorem cs_Md_184 : CsV "FileIndexerModel" 184 k_Md_score y_Md_score 2 := ⟨cd_Md_score, Wd.t 908 (by decide +kernel) rfl, Wd.t 910 (by decide +kernel) rfl, ⟨by decide +kernel, rfl⟩, by decide +kernel⟩
theorem cs_Md_175 : CsV "FileIndexerModel" 175 k_Md_hits y_Md_hits 2 := ⟨cd_Md_hits, Wd.t 912 (by decide +kernel) rfl, Wd.t 914 (by decide +kernel) rfl, ⟨by decide +kernel, rfl⟩, by decide +kernel⟩
theorem cs_Md_172 : CsV "FileIndexerModel" 172 k_Md_hit y_Md_hit 2 := ⟨cd_Md_hit, Wd.t 916 (by decide +kernel) rfl, Wd.t 918 (by decide +kernel) rfl, ⟨by decide +kernel, rfl⟩, by decide +kernel⟩
theorem cs_Md_187 : CsV "FileIndexerModel" 187 k_Md_place y_Md_place 2 := ⟨cd_Md_place, Wd.t 920 (by decide +kernel) rfl, Wd.t 922 (by decide +kernel) rfl, ⟨by decide +kernel, rfl⟩, by decide +kernel⟩
theorem cs_Lw_102 : CsV "FileIndexerLaw" 102 k_Md_fault y_Md_fault 0 := ⟨cd_Md_fault, Wd.t 924 (by decide +kernel) rfl, Wd.t 925 (by decide +kernel) rfl, Wd.t 926 (by decide +kernel) rfl, by decide +kernel⟩
theorem cs_Lw_105 : CsV "FileIndexerLaw" 105 k_Md_result y_Md_result 2 := ⟨cd_Md_result, Wd.t 928 (by decide +kernel) rfl, Wd.t 929 (by decide +kernel) rfl, Wd.t 930 (by decide +kernel) rfl, by decide +kernel⟩
theorem cs_Lw_108 : CsV "FileIndexerLaw" 108 k_Md_words y_Md_words 1 := ⟨cd_Md_words, Wd.t 932 (by decide +kernel) rfl, Wd.t 933 (by decide +kernel) rfl, Wd.t 934 (by decide +kernel) rfl, by decide +kernel⟩
theorem cs_Lw_111 : CsV "FileIndexerLaw" 111 k_Md_event y_Md_event 1 := ⟨cd_Md_event, Wd.t 936 (by decide +kernel) rfl, Wd.t 937 (by decide +kernel) rfl, Wd.t 938 (by decide +kernel) rfl, by decide +kernel⟩
theorem cs_Lw_114 : CsV "FileIndexerLaw" 114 k_Md_count y_Md_count 1 := ⟨cd_Md_count, Wd.t 940 (by decide +kernel) rfl, Wd.t 941 (by decide +kernel) rfl, Wd.t 942 (by decide +kernel) rfl, by decide +kernel⟩
theorem cs_Fi_18 : CsI "FileIndexer" 18 k_Qu_init y_Qu_init 0 := ⟨cd_Qu_init, Or.inr ⟨"FileIndexer", lw_in (List.mem_of_getElem? (i := 49) (by decide +kernel))⟩, Wd.t 50 (by decide +kernel) rfl, rfl, rfl, rfl, by decide +kernel⟩
theorem cs_Ix_21 : CsI "FileIndexer$Index" 21 k_En_init y_En_init 0 := ⟨cd_En_init, Or.inr ⟨"FileIndexer", lw_in (List.mem_of_getElem? (i := 75) (by decide +kernel))⟩, Wd.t 76 (by decide +kernel) rfl, rfl, rfl, rfl, by decide +kernel⟩
theorem cs_Qy_21 : CsI "FileIndexer$Query" 21 k_Tm_init y_Tm_init 0 := ⟨cd_Tm_init, Or.inr ⟨"FileIndexer", lw_in (List.mem_of_getElem? (i := 110) (by decide +kernel))⟩, Wd.t 111 (by decide +kernel) rfl, rfl, rfl, rfl, by decide +kernel⟩
theorem cs_Fi_39 : CsI "FileIndexer" 39 k_Rk_init y_Rk_init 0 := ⟨cd_Rk_init, Or.inr ⟨"FileIndexer", lw_in (List.mem_of_getElem? (i := 154) (by decide +kernel))⟩, Wd.t 155 (by decide +kernel) rfl, rfl, rfl, rfl, by decide +kernel⟩
theorem cs_Tr_26 : CsN "FileIndexer$Tree" 26 k_Fi_isNode y_Fi_isNode 1 := ⟨cd_Fi_isNode, ⟨"FileIndexer", lw_in (List.mem_of_getElem? (i := 195) (by decide +kernel))⟩, Wd.t 196 (by decide +kernel) rfl, by decide +kernel⟩
theorem cs_En_27 : CsN "FileIndexer$Entry" 27 k_Fi_isLetter y_Fi_isLetter 1 := ⟨cd_Fi_isLetter, ⟨"FileIndexer", lw_in (List.mem_of_getElem? (i := 221) (by decide +kernel))⟩, Wd.t 222 (by decide +kernel) rfl, by decide +kernel⟩
theorem cs_En_31 : CsN "FileIndexer$Entry" 31 k_Fi_withLetter y_Fi_withLetter 3 := ⟨cd_Fi_withLetter, ⟨"FileIndexer", lw_in (List.mem_of_getElem? (i := 224) (by decide +kernel))⟩, Wd.t 225 (by decide +kernel) rfl, by decide +kernel⟩
theorem cs_Qy_102 : CsN "FileIndexer$Query" 102 k_Fi_isLetter y_Fi_isLetter 1 := ⟨cd_Fi_isLetter, ⟨"FileIndexer", lw_in (List.mem_of_getElem? (i := 538) (by decide +kernel))⟩, Wd.t 222 (by decide +kernel) rfl, by decide +kernel⟩
theorem cs_Qy_108 : CsN "FileIndexer$Query" 108 k_Fi_withLetter y_Fi_withLetter 3 := ⟨cd_Fi_withLetter, ⟨"FileIndexer", lw_in (List.mem_of_getElem? (i := 543) (by decide +kernel))⟩, Wd.t 225 (by decide +kernel) rfl, by decide +kernel⟩
theorem cs_Ix_22 : CsN "FileIndexer$Index" 22 k_Fi_isNode y_Fi_isNode 1 := ⟨cd_Fi_isNode, ⟨"FileIndexer", lw_in (List.mem_of_getElem? (i := 576) (by decide +kernel))⟩, Wd.t 196 (by decide +kernel) rfl, by decide +kernel⟩
theorem wl_Lw_8 : Wd (.classLink "FileIndexerLaw" 8 (kN 7)) := Wd.t 17 (by decide +kernel) rfl
theorem wl_Fi_7 : Wd (.classLink "FileIndexer" 7 (kN 6)) := Wd.t 25 (by decide +kernel) rfl
theorem wl_Tr_18 : Wd (.classLink "FileIndexer$Tree" 18 "[[I") := Wd.t 31 (by decide +kernel) rfl
theorem wl_Fi_16 : Wd (.classLink "FileIndexer" 16 (kN 3)) := Wd.t 47 (by decide +kernel) rfl
theorem wl_Fi_23 : Wd (.classLink "FileIndexer" 23 (kN 1)) := Wd.t 66 (by decide +kernel) rfl
theorem wl_Ix_9 : Wd (.classLink "FileIndexer$Index" 9 (kN 0)) := Wd.t 72 (by decide +kernel) rfl
theorem wl_Fi_30 : Wd (.classLink "FileIndexer" 30 (kN 2)) := Wd.t 101 (by decide +kernel) rfl
theorem wl_Qy_15 : Wd (.classLink "FileIndexer$Query" 15 (kN 5)) := Wd.t 107 (by decide +kernel) rfl
theorem wl_Fi_37 : Wd (.classLink "FileIndexer" 37 (kN 4)) := Wd.t 152 (by decide +kernel) rfl
theorem wl_Lw_13 : Wd (.classLink "FileIndexerLaw" 13 (kN 9)) := Wd.t 246 (by decide +kernel) rfl
theorem wl_Lw_15 : Wd (.classLink "FileIndexerLaw" 15 (kN 10)) := Wd.t 247 (by decide +kernel) rfl
theorem wl_Fi_55 : Wd (.classLink "FileIndexer" 55 (kN 9)) := Wd.t 256 (by decide +kernel) rfl
theorem wl_Fi_64 : Wd (.classLink "FileIndexer" 64 (kN 10)) := Wd.t 327 (by decide +kernel) rfl
theorem wl_Lw_21 : Wd (.classLink "FileIndexerLaw" 21 (kN 11)) := Wd.t 365 (by decide +kernel) rfl
theorem wl_Fi_78 : Wd (.classLink "FileIndexer" 78 (kN 11)) := Wd.t 370 (by decide +kernel) rfl
theorem wl_Lw_56 : Wd (.classLink "FileIndexerLaw" 56 (kN 8)) := Wd.t 690 (by decide +kernel) rfl
theorem wo_Fi : Wd (.methodLink "FileIndexer" 1 objectInit) := Wd.t 22 (by decide +kernel) rfl
theorem wo_Tr : Wd (.methodLink "FileIndexer$Tree" 3 objectInit) := Wd.t 30 (by decide +kernel) rfl
theorem wo_Qu : Wd (.methodLink "FileIndexer$Queue" 3 objectInit) := Wd.t 52 (by decide +kernel) rfl
theorem wo_Ix : Wd (.methodLink "FileIndexer$Index" 3 objectInit) := Wd.t 71 (by decide +kernel) rfl
theorem wo_En : Wd (.methodLink "FileIndexer$Entry" 3 objectInit) := Wd.t 78 (by decide +kernel) rfl
theorem wo_Qy : Wd (.methodLink "FileIndexer$Query" 3 objectInit) := Wd.t 106 (by decide +kernel) rfl
theorem wo_Tm : Wd (.methodLink "FileIndexer$Term" 3 objectInit) := Wd.t 113 (by decide +kernel) rfl
theorem wo_Rk : Wd (.methodLink "FileIndexer$Ranking" 3 objectInit) := Wd.t 157 (by decide +kernel) rfl
theorem wx_Fi_57 : Wd (.methodLink "FileIndexer" 57 (Bundle.init0 (kN 9))) := Wd.t 297 (by decide +kernel) rfl
theorem wx_Fi_66 : Wd (.methodLink "FileIndexer" 66 (Bundle.init0 (kN 10))) := Wd.t 336 (by decide +kernel) rfl
theorem wx_Fi_80 : Wd (.methodLink "FileIndexer" 80 (Bundle.init0 (kN 11))) := Wd.t 379 (by decide +kernel) rfl
theorem wo_Md : Wd (.methodLink "FileIndexerModel" 1 objectInit) := Wd.t 695 (by decide +kernel) rfl
theorem wo1 : Wd (.instanceMethod objectInit) := Wd.t 23 (by decide +kernel) rfl
theorem wo2 : Wd (.code objectInit ⟨#[0xb1]⟩ 1 none) := Wd.t 24 (by decide +kernel) rfl
theorem wk_Tm_26 : Wd (.constantLong "FileIndexer$Term" 26 (-1)) := Wd.t 521 (by decide +kernel) rfl
theorem wk_Lw_69 : Wd (.constantLong "FileIndexerLaw" 69 (4294967295)) := Wd.t 944 (by decide +kernel) rfl
theorem wa_int : Wd (.arrayClass .int) := Wd.t 46 (by decide +kernel) rfl
theorem wa_boolean : Wd (.arrayClass .boolean) := Wd.t 89 (by decide +kernel) rfl
theorem wa_long : Wd (.arrayClass .long) := Wd.t 90 (by decide +kernel) rfl
theorem wv_a : Cond.arrayOver (.array .int) ∈ lw_tbl := lw_in (List.mem_of_getElem? (i := 32) (by decide +kernel))
theorem wv_En : Cond.arrayOver (.object (kN 0)) ∈ lw_tbl := lw_in (List.mem_of_getElem? (i := 73) (by decide +kernel))
theorem wv_Tm : Cond.arrayOver (.object (kN 5)) ∈ lw_tbl := lw_in (List.mem_of_getElem? (i := 108) (by decide +kernel))
end
section
theorem d_En_init_0 : decode k_En_init.1 0 = .ok (.aload_n 0, 1) := by decide +kernel
theorem d_En_init_1 : decode k_En_init.1 1 = .ok (.invokespecial 3, 3) := by decide +kernel
theorem d_En_init_4 : decode k_En_init.1 4 = .ok (.aload_n 0, 1) := by decide +kernel
theorem d_En_init_5 : decode k_En_init.1 5 = .ok (.bipush 30, 2) := by decide +kernel
theorem d_En_init_7 : decode k_En_init.1 7 = .ok (.newarray .long, 2) := by decide +kernel
theorem d_En_init_9 : decode k_En_init.1 9 = .ok (.putfield 11, 3) := by decide +kernel
theorem d_En_init_12 : decode k_En_init.1 12 = .ok (.aload_n 0, 1) := by decide +kernel
theorem d_En_init_13 : decode k_En_init.1 13 = .ok (.bipush 30, 2) := by decide +kernel
theorem d_En_init_15 : decode k_En_init.1 15 = .ok (.newarray .int, 2) := by decide +kernel
theorem d_En_init_17 : decode k_En_init.1 17 = .ok (.putfield 15, 3) := by decide +kernel
theorem d_En_init_20 : decode k_En_init.1 20 = .ok (.return_, 1) := by decide +kernel
theorem d_En_take_0 : decode k_En_take.1 0 = .ok (.aload_n 0, 1) := by decide +kernel
theorem d_En_take_1 : decode k_En_take.1 1 = .ok (.iconst 0, 1) := by decide +kernel
theorem d_En_take_2 : decode k_En_take.1 2 = .ok (.putfield 19, 3) := by decide +kernel
theorem d_En_take_5 : decode k_En_take.1 5 = .ok (.aload_n 1, 1) := by decide +kernel
theorem d_En_take_6 : decode k_En_take.1 6 = .ok (.iload_n 2, 1) := by decide +kernel
theorem d_En_take_7 : decode k_En_take.1 7 = .ok (.invokestatic 23, 3) := by decide +kernel
theorem d_En_take_10 : decode k_En_take.1 10 = .ok (.istore_n 3, 1) := by decide +kernel
theorem d_En_take_11 : decode k_En_take.1 11 = .ok (.iconst 0, 1) := by decide +kernel
theorem d_En_take_12 : decode k_En_take.1 12 = .ok (.istore 4, 2) := by decide +kernel
theorem d_En_take_14 : decode k_En_take.1 14 = .ok (.lconst 0, 1) := by decide +kernel
theorem d_En_take_15 : decode k_En_take.1 15 = .ok (.lstore 5, 2) := by decide +kernel
theorem d_En_take_17 : decode k_En_take.1 17 = .ok (.iconst 0, 1) := by decide +kernel
theorem d_En_take_18 : decode k_En_take.1 18 = .ok (.istore 7, 2) := by decide +kernel
theorem d_En_take_20 : decode k_En_take.1 20 = .ok (.iload 7, 2) := by decide +kernel
theorem d_En_take_22 : decode k_En_take.1 22 = .ok (.iload_n 2, 1) := by decide +kernel
theorem d_En_take_23 : decode k_En_take.1 23 = .ok (.if_icmp .ge 107, 3) := by decide +kernel
theorem d_En_take_26 : decode k_En_take.1 26 = .ok (.aload_n 1, 1) := by decide +kernel
theorem d_En_take_27 : decode k_En_take.1 27 = .ok (.iload 7, 2) := by decide +kernel
theorem d_En_take_29 : decode k_En_take.1 29 = .ok (.iaload, 1) := by decide +kernel
theorem d_En_take_30 : decode k_En_take.1 30 = .ok (.invokestatic 27, 3) := by decide +kernel
theorem d_En_take_33 : decode k_En_take.1 33 = .ok (.ifCond .eq 26, 3) := by decide +kernel
theorem d_En_take_36 : decode k_En_take.1 36 = .ok (.iload 4, 2) := by decide +kernel
theorem d_En_take_38 : decode k_En_take.1 38 = .ok (.bipush 8, 2) := by decide +kernel
theorem d_En_take_40 : decode k_En_take.1 40 = .ok (.if_icmp .ge 16, 3) := by decide +kernel
theorem d_En_take_43 : decode k_En_take.1 43 = .ok (.lload 5, 2) := by decide +kernel
theorem d_En_take_45 : decode k_En_take.1 45 = .ok (.iload 4, 2) := by decide +kernel
theorem d_En_take_47 : decode k_En_take.1 47 = .ok (.aload_n 1, 1) := by decide +kernel
theorem d_En_take_48 : decode k_En_take.1 48 = .ok (.iload 7, 2) := by decide +kernel
theorem d_En_take_50 : decode k_En_take.1 50 = .ok (.iaload, 1) := by decide +kernel
theorem d_En_take_51 : decode k_En_take.1 51 = .ok (.invokestatic 31, 3) := by decide +kernel
theorem d_En_take_54 : decode k_En_take.1 54 = .ok (.lstore 5, 2) := by decide +kernel
theorem d_En_take_56 : decode k_En_take.1 56 = .ok (.iinc 4 1, 3) := by decide +kernel
theorem d_En_take_59 : decode k_En_take.1 59 = .ok (.iload 7, 2) := by decide +kernel
theorem d_En_take_61 : decode k_En_take.1 61 = .ok (.iconst 1, 1) := by decide +kernel
theorem d_En_take_62 : decode k_En_take.1 62 = .ok (.iadd, 1) := by decide +kernel
theorem d_En_take_63 : decode k_En_take.1 63 = .ok (.iload_n 2, 1) := by decide +kernel
theorem d_En_take_64 : decode k_En_take.1 64 = .ok (.if_icmp .eq 15, 3) := by decide +kernel
theorem d_En_take_67 : decode k_En_take.1 67 = .ok (.aload_n 1, 1) := by decide +kernel
theorem d_En_take_68 : decode k_En_take.1 68 = .ok (.iload 7, 2) := by decide +kernel
theorem d_En_take_70 : decode k_En_take.1 70 = .ok (.iconst 1, 1) := by decide +kernel
theorem d_En_take_71 : decode k_En_take.1 71 = .ok (.iadd, 1) := by decide +kernel
theorem d_En_take_72 : decode k_En_take.1 72 = .ok (.iaload, 1) := by decide +kernel
theorem d_En_take_73 : decode k_En_take.1 73 = .ok (.invokestatic 27, 3) := by decide +kernel
theorem d_En_take_76 : decode k_En_take.1 76 = .ok (.ifCond .ne 7, 3) := by decide +kernel
theorem d_En_take_79 : decode k_En_take.1 79 = .ok (.iconst 1, 1) := by decide +kernel
theorem d_En_take_80 : decode k_En_take.1 80 = .ok (.goto 4, 3) := by decide +kernel
theorem d_En_take_83 : decode k_En_take.1 83 = .ok (.iconst 0, 1) := by decide +kernel
theorem d_En_take_84 : decode k_En_take.1 84 = .ok (.istore 8, 2) := by decide +kernel
theorem d_En_take_86 : decode k_En_take.1 86 = .ok (.iload 4, 2) := by decide +kernel
theorem d_En_take_88 : decode k_En_take.1 88 = .ok (.ifCond .le 36, 3) := by decide +kernel
theorem d_En_take_91 : decode k_En_take.1 91 = .ok (.iload 8, 2) := by decide +kernel
theorem d_En_take_93 : decode k_En_take.1 93 = .ok (.ifCond .eq 31, 3) := by decide +kernel
theorem d_En_take_96 : decode k_En_take.1 96 = .ok (.aload_n 0, 1) := by decide +kernel
theorem d_En_take_97 : decode k_En_take.1 97 = .ok (.lload 5, 2) := by decide +kernel
theorem d_En_take_99 : decode k_En_take.1 99 = .ok (.iload 7, 2) := by decide +kernel
theorem d_En_take_101 : decode k_En_take.1 101 = .ok (.iconst 1, 1) := by decide +kernel
theorem d_En_take_102 : decode k_En_take.1 102 = .ok (.iadd, 1) := by decide +kernel
theorem d_En_take_103 : decode k_En_take.1 103 = .ok (.iload 4, 2) := by decide +kernel
theorem d_En_take_105 : decode k_En_take.1 105 = .ok (.isub, 1) := by decide +kernel
theorem d_En_take_106 : decode k_En_take.1 106 = .ok (.iload_n 3, 1) := by decide +kernel
theorem d_En_take_107 : decode k_En_take.1 107 = .ok (.if_icmp .ge 7, 3) := by decide +kernel
theorem d_En_take_110 : decode k_En_take.1 110 = .ok (.iconst 3, 1) := by decide +kernel
theorem d_En_take_111 : decode k_En_take.1 111 = .ok (.goto 4, 3) := by decide +kernel
theorem d_En_take_114 : decode k_En_take.1 114 = .ok (.iconst 1, 1) := by decide +kernel
theorem d_En_take_115 : decode k_En_take.1 115 = .ok (.invokevirtual 35, 3) := by decide +kernel
theorem d_En_take_118 : decode k_En_take.1 118 = .ok (.iconst 0, 1) := by decide +kernel
theorem d_En_take_119 : decode k_En_take.1 119 = .ok (.istore 4, 2) := by decide +kernel
theorem d_En_take_121 : decode k_En_take.1 121 = .ok (.lconst 0, 1) := by decide +kernel
theorem d_En_take_122 : decode k_En_take.1 122 = .ok (.lstore 5, 2) := by decide +kernel
theorem d_En_take_124 : decode k_En_take.1 124 = .ok (.iinc 7 1, 3) := by decide +kernel
theorem d_En_take_127 : decode k_En_take.1 127 = .ok (.goto (-107), 3) := by decide +kernel
theorem d_En_take_130 : decode k_En_take.1 130 = .ok (.return_, 1) := by decide +kernel
theorem d_En_titleEndOf_0 : decode k_En_titleEndOf.1 0 = .ok (.iload_n 1, 1) := by decide +kernel
theorem d_En_titleEndOf_1 : decode k_En_titleEndOf.1 1 = .ok (.ifCond .eq 11, 3) := by decide +kernel
theorem d_En_titleEndOf_4 : decode k_En_titleEndOf.1 4 = .ok (.aload_n 0, 1) := by decide +kernel
theorem d_En_titleEndOf_5 : decode k_En_titleEndOf.1 5 = .ok (.iconst 0, 1) := by decide +kernel
theorem d_En_titleEndOf_6 : decode k_En_titleEndOf.1 6 = .ok (.iaload, 1) := by decide +kernel
theorem d_En_titleEndOf_7 : decode k_En_titleEndOf.1 7 = .ok (.bipush 35, 2) := by decide +kernel
theorem d_En_titleEndOf_9 : decode k_En_titleEndOf.1 9 = .ok (.if_icmp .eq 5, 3) := by decide +kernel
theorem d_En_titleEndOf_12 : decode k_En_titleEndOf.1 12 = .ok (.iconst 0, 1) := by decide +kernel
theorem d_En_titleEndOf_13 : decode k_En_titleEndOf.1 13 = .ok (.ireturn, 1) := by decide +kernel
theorem d_En_titleEndOf_14 : decode k_En_titleEndOf.1 14 = .ok (.iconst 0, 1) := by decide +kernel
theorem d_En_titleEndOf_15 : decode k_En_titleEndOf.1 15 = .ok (.istore_n 2, 1) := by decide +kernel
theorem d_En_titleEndOf_16 : decode k_En_titleEndOf.1 16 = .ok (.iload_n 2, 1) := by decide +kernel
theorem d_En_titleEndOf_17 : decode k_En_titleEndOf.1 17 = .ok (.iload_n 1, 1) := by decide +kernel
theorem d_En_titleEndOf_18 : decode k_En_titleEndOf.1 18 = .ok (.if_icmp .ge 19, 3) := by decide +kernel
theorem d_En_titleEndOf_21 : decode k_En_titleEndOf.1 21 = .ok (.aload_n 0, 1) := by decide +kernel
theorem d_En_titleEndOf_22 : decode k_En_titleEndOf.1 22 = .ok (.iload_n 2, 1) := by decide +kernel
theorem d_En_titleEndOf_23 : decode k_En_titleEndOf.1 23 = .ok (.iaload, 1) := by decide +kernel
theorem d_En_titleEndOf_24 : decode k_En_titleEndOf.1 24 = .ok (.bipush 59, 2) := by decide +kernel
theorem d_En_titleEndOf_26 : decode k_En_titleEndOf.1 26 = .ok (.if_icmp .ne 5, 3) := by decide +kernel
theorem d_En_titleEndOf_29 : decode k_En_titleEndOf.1 29 = .ok (.iload_n 2, 1) := by decide +kernel
theorem d_En_titleEndOf_30 : decode k_En_titleEndOf.1 30 = .ok (.ireturn, 1) := by decide +kernel
theorem d_En_titleEndOf_31 : decode k_En_titleEndOf.1 31 = .ok (.iinc 2 1, 3) := by decide +kernel
theorem d_En_titleEndOf_34 : decode k_En_titleEndOf.1 34 = .ok (.goto (-18), 3) := by decide +kernel
theorem d_En_titleEndOf_37 : decode k_En_titleEndOf.1 37 = .ok (.iload_n 1, 1) := by decide +kernel
theorem d_En_titleEndOf_38 : decode k_En_titleEndOf.1 38 = .ok (.ireturn, 1) := by decide +kernel
theorem d_En_add_0 : decode k_En_add.1 0 = .ok (.aload_n 0, 1) := by decide +kernel
theorem d_En_add_1 : decode k_En_add.1 1 = .ok (.getfield 11, 3) := by decide +kernel
theorem d_En_add_4 : decode k_En_add.1 4 = .ok (.aload_n 0, 1) := by decide +kernel
theorem d_En_add_5 : decode k_En_add.1 5 = .ok (.getfield 19, 3) := by decide +kernel
theorem d_En_add_8 : decode k_En_add.1 8 = .ok (.lload_n 1, 1) := by decide +kernel
theorem d_En_add_9 : decode k_En_add.1 9 = .ok (.lastore, 1) := by decide +kernel
theorem d_En_add_10 : decode k_En_add.1 10 = .ok (.aload_n 0, 1) := by decide +kernel
theorem d_En_add_11 : decode k_En_add.1 11 = .ok (.getfield 15, 3) := by decide +kernel
theorem d_En_add_14 : decode k_En_add.1 14 = .ok (.aload_n 0, 1) := by decide +kernel
theorem d_En_add_15 : decode k_En_add.1 15 = .ok (.getfield 19, 3) := by decide +kernel
theorem d_En_add_18 : decode k_En_add.1 18 = .ok (.iload_n 3, 1) := by decide +kernel
theorem d_En_add_19 : decode k_En_add.1 19 = .ok (.iastore, 1) := by decide +kernel
theorem d_En_add_20 : decode k_En_add.1 20 = .ok (.aload_n 0, 1) := by decide +kernel
theorem d_En_add_21 : decode k_En_add.1 21 = .ok (.dup, 1) := by decide +kernel
theorem d_En_add_22 : decode k_En_add.1 22 = .ok (.getfield 19, 3) := by decide +kernel
theorem d_En_add_25 : decode k_En_add.1 25 = .ok (.iconst 1, 1) := by decide +kernel
theorem d_En_add_26 : decode k_En_add.1 26 = .ok (.iadd, 1) := by decide +kernel
theorem d_En_add_27 : decode k_En_add.1 27 = .ok (.putfield 19, 3) := by decide +kernel
theorem d_En_add_30 : decode k_En_add.1 30 = .ok (.return_, 1) := by decide +kernel
theorem d_En_size_0 : decode k_En_size.1 0 = .ok (.aload_n 0, 1) := by decide +kernel
theorem d_En_size_1 : decode k_En_size.1 1 = .ok (.getfield 19, 3) := by decide +kernel
theorem d_En_size_4 : decode k_En_size.1 4 = .ok (.ireturn, 1) := by decide +kernel
theorem d_En_wordAt_0 : decode k_En_wordAt.1 0 = .ok (.aload_n 0, 1) := by decide +kernel
theorem d_En_wordAt_1 : decode k_En_wordAt.1 1 = .ok (.getfield 11, 3) := by decide +kernel
theorem d_En_wordAt_4 : decode k_En_wordAt.1 4 = .ok (.iload_n 1, 1) := by decide +kernel
theorem d_En_wordAt_5 : decode k_En_wordAt.1 5 = .ok (.laload, 1) := by decide +kernel
theorem d_En_wordAt_6 : decode k_En_wordAt.1 6 = .ok (.lreturn, 1) := by decide +kernel
theorem d_En_weightAt_0 : decode k_En_weightAt.1 0 = .ok (.aload_n 0, 1) := by decide +kernel
theorem d_En_weightAt_1 : decode k_En_weightAt.1 1 = .ok (.getfield 15, 3) := by decide +kernel
theorem d_En_weightAt_4 : decode k_En_weightAt.1 4 = .ok (.iload_n 1, 1) := by decide +kernel
theorem d_En_weightAt_5 : decode k_En_weightAt.1 5 = .ok (.iaload, 1) := by decide +kernel
theorem d_En_weightAt_6 : decode k_En_weightAt.1 6 = .ok (.ireturn, 1) := by decide +kernel
end
section
theorem d_Fi_init_0 : decode k_Fi_init.1 0 = .ok (.aload_n 0, 1) := by decide +kernel
theorem d_Fi_init_1 : decode k_Fi_init.1 1 = .ok (.invokespecial 1, 3) := by decide +kernel
theorem d_Fi_init_4 : decode k_Fi_init.1 4 = .ok (.aload_n 0, 1) := by decide +kernel
theorem d_Fi_init_5 : decode k_Fi_init.1 5 = .ok (.new 7, 3) := by decide +kernel
theorem d_Fi_init_8 : decode k_Fi_init.1 8 = .ok (.dup, 1) := by decide +kernel
theorem d_Fi_init_9 : decode k_Fi_init.1 9 = .ok (.invokespecial 9, 3) := by decide +kernel
theorem d_Fi_init_12 : decode k_Fi_init.1 12 = .ok (.putfield 10, 3) := by decide +kernel
theorem d_Fi_init_15 : decode k_Fi_init.1 15 = .ok (.aload_n 0, 1) := by decide +kernel
theorem d_Fi_init_16 : decode k_Fi_init.1 16 = .ok (.new 16, 3) := by decide +kernel
theorem d_Fi_init_19 : decode k_Fi_init.1 19 = .ok (.dup, 1) := by decide +kernel
theorem d_Fi_init_20 : decode k_Fi_init.1 20 = .ok (.invokespecial 18, 3) := by decide +kernel
theorem d_Fi_init_23 : decode k_Fi_init.1 23 = .ok (.putfield 19, 3) := by decide +kernel
theorem d_Fi_init_26 : decode k_Fi_init.1 26 = .ok (.aload_n 0, 1) := by decide +kernel
theorem d_Fi_init_27 : decode k_Fi_init.1 27 = .ok (.new 23, 3) := by decide +kernel
theorem d_Fi_init_30 : decode k_Fi_init.1 30 = .ok (.dup, 1) := by decide +kernel
theorem d_Fi_init_31 : decode k_Fi_init.1 31 = .ok (.invokespecial 25, 3) := by decide +kernel
theorem d_Fi_init_34 : decode k_Fi_init.1 34 = .ok (.putfield 26, 3) := by decide +kernel
theorem d_Fi_init_37 : decode k_Fi_init.1 37 = .ok (.aload_n 0, 1) := by decide +kernel
theorem d_Fi_init_38 : decode k_Fi_init.1 38 = .ok (.new 30, 3) := by decide +kernel
theorem d_Fi_init_41 : decode k_Fi_init.1 41 = .ok (.dup, 1) := by decide +kernel
theorem d_Fi_init_42 : decode k_Fi_init.1 42 = .ok (.invokespecial 32, 3) := by decide +kernel
theorem d_Fi_init_45 : decode k_Fi_init.1 45 = .ok (.putfield 33, 3) := by decide +kernel
theorem d_Fi_init_48 : decode k_Fi_init.1 48 = .ok (.aload_n 0, 1) := by decide +kernel
theorem d_Fi_init_49 : decode k_Fi_init.1 49 = .ok (.new 37, 3) := by decide +kernel
theorem d_Fi_init_52 : decode k_Fi_init.1 52 = .ok (.dup, 1) := by decide +kernel
theorem d_Fi_init_53 : decode k_Fi_init.1 53 = .ok (.invokespecial 39, 3) := by decide +kernel
theorem d_Fi_init_56 : decode k_Fi_init.1 56 = .ok (.putfield 40, 3) := by decide +kernel
theorem d_Fi_init_59 : decode k_Fi_init.1 59 = .ok (.aload_n 0, 1) := by decide +kernel
theorem d_Fi_init_60 : decode k_Fi_init.1 60 = .ok (.iconst (-1), 1) := by decide +kernel
theorem d_Fi_init_61 : decode k_Fi_init.1 61 = .ok (.putfield 44, 3) := by decide +kernel
theorem d_Fi_init_64 : decode k_Fi_init.1 64 = .ok (.return_, 1) := by decide +kernel
theorem d_Fi_rescan_0 : decode k_Fi_rescan.1 0 = .ok (.iconst 0, 1) := by decide +kernel
theorem d_Fi_rescan_1 : decode k_Fi_rescan.1 1 = .ok (.istore_n 1, 1) := by decide +kernel
theorem d_Fi_rescan_2 : decode k_Fi_rescan.1 2 = .ok (.iconst 1, 1) := by decide +kernel
theorem d_Fi_rescan_3 : decode k_Fi_rescan.1 3 = .ok (.istore_n 2, 1) := by decide +kernel
theorem d_Fi_rescan_4 : decode k_Fi_rescan.1 4 = .ok (.iload_n 2, 1) := by decide +kernel
theorem d_Fi_rescan_5 : decode k_Fi_rescan.1 5 = .ok (.bipush 16, 2) := by decide +kernel
theorem d_Fi_rescan_7 : decode k_Fi_rescan.1 7 = .ok (.if_icmp .ge 39, 3) := by decide +kernel
theorem d_Fi_rescan_10 : decode k_Fi_rescan.1 10 = .ok (.aload_n 0, 1) := by decide +kernel
theorem d_Fi_rescan_11 : decode k_Fi_rescan.1 11 = .ok (.getfield 10, 3) := by decide +kernel
theorem d_Fi_rescan_14 : decode k_Fi_rescan.1 14 = .ok (.iload_n 2, 1) := by decide +kernel
theorem d_Fi_rescan_15 : decode k_Fi_rescan.1 15 = .ok (.invokevirtual 75, 3) := by decide +kernel
theorem d_Fi_rescan_18 : decode k_Fi_rescan.1 18 = .ok (.ifCond .eq 14, 3) := by decide +kernel
theorem d_Fi_rescan_21 : decode k_Fi_rescan.1 21 = .ok (.aload_n 0, 1) := by decide +kernel
theorem d_Fi_rescan_22 : decode k_Fi_rescan.1 22 = .ok (.iload_n 2, 1) := by decide +kernel
theorem d_Fi_rescan_23 : decode k_Fi_rescan.1 23 = .ok (.invokevirtual 139, 3) := by decide +kernel
theorem d_Fi_rescan_26 : decode k_Fi_rescan.1 26 = .ok (.iinc 1 1, 3) := by decide +kernel
theorem d_Fi_rescan_29 : decode k_Fi_rescan.1 29 = .ok (.goto 11, 3) := by decide +kernel
theorem d_Fi_rescan_32 : decode k_Fi_rescan.1 32 = .ok (.aload_n 0, 1) := by decide +kernel
theorem d_Fi_rescan_33 : decode k_Fi_rescan.1 33 = .ok (.getfield 26, 3) := by decide +kernel
theorem d_Fi_rescan_36 : decode k_Fi_rescan.1 36 = .ok (.iload_n 2, 1) := by decide +kernel
theorem d_Fi_rescan_37 : decode k_Fi_rescan.1 37 = .ok (.invokevirtual 142, 3) := by decide +kernel
theorem d_Fi_rescan_40 : decode k_Fi_rescan.1 40 = .ok (.iinc 2 1, 3) := by decide +kernel
theorem d_Fi_rescan_43 : decode k_Fi_rescan.1 43 = .ok (.goto (-39), 3) := by decide +kernel
theorem d_Fi_rescan_46 : decode k_Fi_rescan.1 46 = .ok (.aload_n 0, 1) := by decide +kernel
theorem d_Fi_rescan_47 : decode k_Fi_rescan.1 47 = .ok (.getfield 19, 3) := by decide +kernel
theorem d_Fi_rescan_50 : decode k_Fi_rescan.1 50 = .ok (.invokevirtual 145, 3) := by decide +kernel
theorem d_Fi_rescan_53 : decode k_Fi_rescan.1 53 = .ok (.iload_n 1, 1) := by decide +kernel
theorem d_Fi_rescan_54 : decode k_Fi_rescan.1 54 = .ok (.ireturn, 1) := by decide +kernel
theorem d_Fi_isNode_0 : decode k_Fi_isNode.1 0 = .ok (.iload_n 0, 1) := by decide +kernel
theorem d_Fi_isNode_1 : decode k_Fi_isNode.1 1 = .ok (.ifCond .lt 13, 3) := by decide +kernel
theorem d_Fi_isNode_4 : decode k_Fi_isNode.1 4 = .ok (.iload_n 0, 1) := by decide +kernel
theorem d_Fi_isNode_5 : decode k_Fi_isNode.1 5 = .ok (.bipush 16, 2) := by decide +kernel
theorem d_Fi_isNode_7 : decode k_Fi_isNode.1 7 = .ok (.if_icmp .ge 7, 3) := by decide +kernel
theorem d_Fi_isNode_10 : decode k_Fi_isNode.1 10 = .ok (.iconst 1, 1) := by decide +kernel
theorem d_Fi_isNode_11 : decode k_Fi_isNode.1 11 = .ok (.goto 4, 3) := by decide +kernel
theorem d_Fi_isNode_14 : decode k_Fi_isNode.1 14 = .ok (.iconst 0, 1) := by decide +kernel
theorem d_Fi_isNode_15 : decode k_Fi_isNode.1 15 = .ok (.ireturn, 1) := by decide +kernel
theorem d_Fi_readFile_0 : decode k_Fi_readFile.1 0 = .ok (.aload_n 0, 1) := by decide +kernel
theorem d_Fi_readFile_1 : decode k_Fi_readFile.1 1 = .ok (.getfield 26, 3) := by decide +kernel
theorem d_Fi_readFile_4 : decode k_Fi_readFile.1 4 = .ok (.iload_n 1, 1) := by decide +kernel
theorem d_Fi_readFile_5 : decode k_Fi_readFile.1 5 = .ok (.aload_n 0, 1) := by decide +kernel
theorem d_Fi_readFile_6 : decode k_Fi_readFile.1 6 = .ok (.getfield 10, 3) := by decide +kernel
theorem d_Fi_readFile_9 : decode k_Fi_readFile.1 9 = .ok (.iload_n 1, 1) := by decide +kernel
theorem d_Fi_readFile_10 : decode k_Fi_readFile.1 10 = .ok (.invokevirtual 197, 3) := by decide +kernel
theorem d_Fi_readFile_13 : decode k_Fi_readFile.1 13 = .ok (.aload_n 0, 1) := by decide +kernel
theorem d_Fi_readFile_14 : decode k_Fi_readFile.1 14 = .ok (.getfield 10, 3) := by decide +kernel
theorem d_Fi_readFile_17 : decode k_Fi_readFile.1 17 = .ok (.iload_n 1, 1) := by decide +kernel
theorem d_Fi_readFile_18 : decode k_Fi_readFile.1 18 = .ok (.invokevirtual 85, 3) := by decide +kernel
theorem d_Fi_readFile_21 : decode k_Fi_readFile.1 21 = .ok (.invokevirtual 201, 3) := by decide +kernel
theorem d_Fi_readFile_24 : decode k_Fi_readFile.1 24 = .ok (.return_, 1) := by decide +kernel
theorem d_Fi_isLetter_0 : decode k_Fi_isLetter.1 0 = .ok (.iload_n 0, 1) := by decide +kernel
theorem d_Fi_isLetter_1 : decode k_Fi_isLetter.1 1 = .ok (.bipush 97, 2) := by decide +kernel
theorem d_Fi_isLetter_3 : decode k_Fi_isLetter.1 3 = .ok (.if_icmp .lt 9, 3) := by decide +kernel
theorem d_Fi_isLetter_6 : decode k_Fi_isLetter.1 6 = .ok (.iload_n 0, 1) := by decide +kernel
theorem d_Fi_isLetter_7 : decode k_Fi_isLetter.1 7 = .ok (.bipush 122, 2) := by decide +kernel
theorem d_Fi_isLetter_9 : decode k_Fi_isLetter.1 9 = .ok (.if_icmp .le 15, 3) := by decide +kernel
theorem d_Fi_isLetter_12 : decode k_Fi_isLetter.1 12 = .ok (.iload_n 0, 1) := by decide +kernel
theorem d_Fi_isLetter_13 : decode k_Fi_isLetter.1 13 = .ok (.bipush 65, 2) := by decide +kernel
theorem d_Fi_isLetter_15 : decode k_Fi_isLetter.1 15 = .ok (.if_icmp .lt 13, 3) := by decide +kernel
theorem d_Fi_isLetter_18 : decode k_Fi_isLetter.1 18 = .ok (.iload_n 0, 1) := by decide +kernel
theorem d_Fi_isLetter_19 : decode k_Fi_isLetter.1 19 = .ok (.bipush 90, 2) := by decide +kernel
theorem d_Fi_isLetter_21 : decode k_Fi_isLetter.1 21 = .ok (.if_icmp .gt 7, 3) := by decide +kernel
theorem d_Fi_isLetter_24 : decode k_Fi_isLetter.1 24 = .ok (.iconst 1, 1) := by decide +kernel
theorem d_Fi_isLetter_25 : decode k_Fi_isLetter.1 25 = .ok (.goto 4, 3) := by decide +kernel
theorem d_Fi_isLetter_28 : decode k_Fi_isLetter.1 28 = .ok (.iconst 0, 1) := by decide +kernel
theorem d_Fi_isLetter_29 : decode k_Fi_isLetter.1 29 = .ok (.ireturn, 1) := by decide +kernel
theorem d_Fi_withLetter_0 : decode k_Fi_withLetter.1 0 = .ok (.iload_n 3, 1) := by decide +kernel
theorem d_Fi_withLetter_1 : decode k_Fi_withLetter.1 1 = .ok (.bipush 32, 2) := by decide +kernel
theorem d_Fi_withLetter_3 : decode k_Fi_withLetter.1 3 = .ok (.ior, 1) := by decide +kernel
theorem d_Fi_withLetter_4 : decode k_Fi_withLetter.1 4 = .ok (.i2l, 1) := by decide +kernel
theorem d_Fi_withLetter_5 : decode k_Fi_withLetter.1 5 = .ok (.lstore 4, 2) := by decide +kernel
theorem d_Fi_withLetter_7 : decode k_Fi_withLetter.1 7 = .ok (.lload_n 0, 1) := by decide +kernel
theorem d_Fi_withLetter_8 : decode k_Fi_withLetter.1 8 = .ok (.lload 4, 2) := by decide +kernel
theorem d_Fi_withLetter_10 : decode k_Fi_withLetter.1 10 = .ok (.bipush 8, 2) := by decide +kernel
theorem d_Fi_withLetter_12 : decode k_Fi_withLetter.1 12 = .ok (.bipush 7, 2) := by decide +kernel
theorem d_Fi_withLetter_14 : decode k_Fi_withLetter.1 14 = .ok (.iload_n 2, 1) := by decide +kernel
theorem d_Fi_withLetter_15 : decode k_Fi_withLetter.1 15 = .ok (.isub, 1) := by decide +kernel
theorem d_Fi_withLetter_16 : decode k_Fi_withLetter.1 16 = .ok (.imul, 1) := by decide +kernel
theorem d_Fi_withLetter_17 : decode k_Fi_withLetter.1 17 = .ok (.lshl, 1) := by decide +kernel
theorem d_Fi_withLetter_18 : decode k_Fi_withLetter.1 18 = .ok (.lor, 1) := by decide +kernel
theorem d_Fi_withLetter_19 : decode k_Fi_withLetter.1 19 = .ok (.lreturn, 1) := by decide +kernel
theorem d_Fi_fault_0 : decode k_Fi_fault.1 0 = .ok (.aload_n 0, 1) := by decide +kernel
theorem d_Fi_fault_1 : decode k_Fi_fault.1 1 = .ok (.getfield 44, 3) := by decide +kernel
theorem d_Fi_fault_4 : decode k_Fi_fault.1 4 = .ok (.ireturn, 1) := by decide +kernel
theorem d_Fi_make_0 : decode k_Fi_make.1 0 = .ok (.iload_n 1, 1) := by decide +kernel
theorem d_Fi_make_1 : decode k_Fi_make.1 1 = .ok (.invokestatic 48, 3) := by decide +kernel
theorem d_Fi_make_4 : decode k_Fi_make.1 4 = .ok (.ifCond .eq 10, 3) := by decide +kernel
theorem d_Fi_make_7 : decode k_Fi_make.1 7 = .ok (.iload_n 2, 1) := by decide +kernel
theorem d_Fi_make_8 : decode k_Fi_make.1 8 = .ok (.invokestatic 52, 3) := by decide +kernel
theorem d_Fi_make_11 : decode k_Fi_make.1 11 = .ok (.ifCond .ne 11, 3) := by decide +kernel
theorem d_Fi_make_14 : decode k_Fi_make.1 14 = .ok (.new 55, 3) := by decide +kernel
theorem d_Fi_make_17 : decode k_Fi_make.1 17 = .ok (.dup, 1) := by decide +kernel
theorem d_Fi_make_18 : decode k_Fi_make.1 18 = .ok (.invokespecial 57, 3) := by decide +kernel
theorem d_Fi_make_21 : decode k_Fi_make.1 21 = .ok (.athrow, 1) := by decide +kernel
theorem d_Fi_make_22 : decode k_Fi_make.1 22 = .ok (.aload_n 0, 1) := by decide +kernel
theorem d_Fi_make_23 : decode k_Fi_make.1 23 = .ok (.getfield 10, 3) := by decide +kernel
theorem d_Fi_make_26 : decode k_Fi_make.1 26 = .ok (.iload_n 1, 1) := by decide +kernel
theorem d_Fi_make_27 : decode k_Fi_make.1 27 = .ok (.invokevirtual 58, 3) := by decide +kernel
theorem d_Fi_make_30 : decode k_Fi_make.1 30 = .ok (.ifCond .ne 14, 3) := by decide +kernel
theorem d_Fi_make_33 : decode k_Fi_make.1 33 = .ok (.aload_n 0, 1) := by decide +kernel
theorem d_Fi_make_34 : decode k_Fi_make.1 34 = .ok (.getfield 10, 3) := by decide +kernel
theorem d_Fi_make_37 : decode k_Fi_make.1 37 = .ok (.iload_n 2, 1) := by decide +kernel
theorem d_Fi_make_38 : decode k_Fi_make.1 38 = .ok (.invokevirtual 61, 3) := by decide +kernel
theorem d_Fi_make_41 : decode k_Fi_make.1 41 = .ok (.ifCond .ne 11, 3) := by decide +kernel
theorem d_Fi_make_44 : decode k_Fi_make.1 44 = .ok (.new 64, 3) := by decide +kernel
theorem d_Fi_make_47 : decode k_Fi_make.1 47 = .ok (.dup, 1) := by decide +kernel
theorem d_Fi_make_48 : decode k_Fi_make.1 48 = .ok (.invokespecial 66, 3) := by decide +kernel
theorem d_Fi_make_51 : decode k_Fi_make.1 51 = .ok (.athrow, 1) := by decide +kernel
theorem d_Fi_make_52 : decode k_Fi_make.1 52 = .ok (.aload_n 0, 1) := by decide +kernel
theorem d_Fi_make_53 : decode k_Fi_make.1 53 = .ok (.getfield 10, 3) := by decide +kernel
theorem d_Fi_make_56 : decode k_Fi_make.1 56 = .ok (.iload_n 1, 1) := by decide +kernel
theorem d_Fi_make_57 : decode k_Fi_make.1 57 = .ok (.iload_n 2, 1) := by decide +kernel
theorem d_Fi_make_58 : decode k_Fi_make.1 58 = .ok (.iload_n 3, 1) := by decide +kernel
theorem d_Fi_make_59 : decode k_Fi_make.1 59 = .ok (.invokevirtual 67, 3) := by decide +kernel
theorem d_Fi_make_62 : decode k_Fi_make.1 62 = .ok (.iload_n 3, 1) := by decide +kernel
theorem d_Fi_make_63 : decode k_Fi_make.1 63 = .ok (.ifCond .ne 12, 3) := by decide +kernel
theorem d_Fi_make_66 : decode k_Fi_make.1 66 = .ok (.aload_n 0, 1) := by decide +kernel
theorem d_Fi_make_67 : decode k_Fi_make.1 67 = .ok (.getfield 19, 3) := by decide +kernel
theorem d_Fi_make_70 : decode k_Fi_make.1 70 = .ok (.iload_n 1, 1) := by decide +kernel
theorem d_Fi_make_71 : decode k_Fi_make.1 71 = .ok (.iconst 1, 1) := by decide +kernel
theorem d_Fi_make_72 : decode k_Fi_make.1 72 = .ok (.invokevirtual 71, 3) := by decide +kernel
theorem d_Fi_make_75 : decode k_Fi_make.1 75 = .ok (.iconst 1, 1) := by decide +kernel
theorem d_Fi_make_76 : decode k_Fi_make.1 76 = .ok (.ireturn, 1) := by decide +kernel
theorem d_Fi_isNodeBelowRoot_0 : decode k_Fi_isNodeBelowRoot.1 0 = .ok (.iload_n 0, 1) := by decide +kernel
theorem d_Fi_isNodeBelowRoot_1 : decode k_Fi_isNodeBelowRoot.1 1 = .ok (.iconst 1, 1) := by decide +kernel
theorem d_Fi_isNodeBelowRoot_2 : decode k_Fi_isNodeBelowRoot.1 2 = .ok (.if_icmp .lt 13, 3) := by decide +kernel
theorem d_Fi_isNodeBelowRoot_5 : decode k_Fi_isNodeBelowRoot.1 5 = .ok (.iload_n 0, 1) := by decide +kernel
theorem d_Fi_isNodeBelowRoot_6 : decode k_Fi_isNodeBelowRoot.1 6 = .ok (.bipush 16, 2) := by decide +kernel
theorem d_Fi_isNodeBelowRoot_8 : decode k_Fi_isNodeBelowRoot.1 8 = .ok (.if_icmp .ge 7, 3) := by decide +kernel
theorem d_Fi_isNodeBelowRoot_11 : decode k_Fi_isNodeBelowRoot.1 11 = .ok (.iconst 1, 1) := by decide +kernel
theorem d_Fi_isNodeBelowRoot_12 : decode k_Fi_isNodeBelowRoot.1 12 = .ok (.goto 4, 3) := by decide +kernel
theorem d_Fi_isNodeBelowRoot_15 : decode k_Fi_isNodeBelowRoot.1 15 = .ok (.iconst 0, 1) := by decide +kernel
theorem d_Fi_isNodeBelowRoot_16 : decode k_Fi_isNodeBelowRoot.1 16 = .ok (.ireturn, 1) := by decide +kernel
theorem d_Fi_write_0 : decode k_Fi_write.1 0 = .ok (.aload_n 0, 1) := by decide +kernel
theorem d_Fi_write_1 : decode k_Fi_write.1 1 = .ok (.getfield 10, 3) := by decide +kernel
theorem d_Fi_write_4 : decode k_Fi_write.1 4 = .ok (.iload_n 1, 1) := by decide +kernel
theorem d_Fi_write_5 : decode k_Fi_write.1 5 = .ok (.invokevirtual 75, 3) := by decide +kernel
theorem d_Fi_write_8 : decode k_Fi_write.1 8 = .ok (.ifCond .ne 11, 3) := by decide +kernel
theorem d_Fi_write_11 : decode k_Fi_write.1 11 = .ok (.new 78, 3) := by decide +kernel
theorem d_Fi_write_14 : decode k_Fi_write.1 14 = .ok (.dup, 1) := by decide +kernel
theorem d_Fi_write_15 : decode k_Fi_write.1 15 = .ok (.invokespecial 80, 3) := by decide +kernel
theorem d_Fi_write_18 : decode k_Fi_write.1 18 = .ok (.athrow, 1) := by decide +kernel
theorem d_Fi_write_19 : decode k_Fi_write.1 19 = .ok (.iload 4, 2) := by decide +kernel
theorem d_Fi_write_21 : decode k_Fi_write.1 21 = .ok (.iconst 1, 1) := by decide +kernel
theorem d_Fi_write_22 : decode k_Fi_write.1 22 = .ok (.if_icmp .lt 19, 3) := by decide +kernel
theorem d_Fi_write_25 : decode k_Fi_write.1 25 = .ok (.iload 4, 2) := by decide +kernel
theorem d_Fi_write_27 : decode k_Fi_write.1 27 = .ok (.bipush 8, 2) := by decide +kernel
theorem d_Fi_write_29 : decode k_Fi_write.1 29 = .ok (.if_icmp .gt 12, 3) := by decide +kernel
theorem d_Fi_write_32 : decode k_Fi_write.1 32 = .ok (.lload_n 2, 1) := by decide +kernel
theorem d_Fi_write_33 : decode k_Fi_write.1 33 = .ok (.iload 4, 2) := by decide +kernel
theorem d_Fi_write_35 : decode k_Fi_write.1 35 = .ok (.invokestatic 81, 3) := by decide +kernel
theorem d_Fi_write_38 : decode k_Fi_write.1 38 = .ok (.ifCond .ne 11, 3) := by decide +kernel
theorem d_Fi_write_41 : decode k_Fi_write.1 41 = .ok (.new 55, 3) := by decide +kernel
theorem d_Fi_write_44 : decode k_Fi_write.1 44 = .ok (.dup, 1) := by decide +kernel
theorem d_Fi_write_45 : decode k_Fi_write.1 45 = .ok (.invokespecial 57, 3) := by decide +kernel
theorem d_Fi_write_48 : decode k_Fi_write.1 48 = .ok (.athrow, 1) := by decide +kernel
theorem d_Fi_write_49 : decode k_Fi_write.1 49 = .ok (.aload_n 0, 1) := by decide +kernel
theorem d_Fi_write_50 : decode k_Fi_write.1 50 = .ok (.getfield 10, 3) := by decide +kernel
theorem d_Fi_write_53 : decode k_Fi_write.1 53 = .ok (.iload_n 1, 1) := by decide +kernel
theorem d_Fi_write_54 : decode k_Fi_write.1 54 = .ok (.invokevirtual 85, 3) := by decide +kernel
theorem d_Fi_write_57 : decode k_Fi_write.1 57 = .ok (.iload 4, 2) := by decide +kernel
theorem d_Fi_write_59 : decode k_Fi_write.1 59 = .ok (.iadd, 1) := by decide +kernel
theorem d_Fi_write_60 : decode k_Fi_write.1 60 = .ok (.bipush 60, 2) := by decide +kernel
theorem d_Fi_write_62 : decode k_Fi_write.1 62 = .ok (.if_icmp .le 11, 3) := by decide +kernel
theorem d_Fi_write_65 : decode k_Fi_write.1 65 = .ok (.new 64, 3) := by decide +kernel
theorem d_Fi_write_68 : decode k_Fi_write.1 68 = .ok (.dup, 1) := by decide +kernel
theorem d_Fi_write_69 : decode k_Fi_write.1 69 = .ok (.invokespecial 66, 3) := by decide +kernel
theorem d_Fi_write_72 : decode k_Fi_write.1 72 = .ok (.athrow, 1) := by decide +kernel
theorem d_Fi_write_73 : decode k_Fi_write.1 73 = .ok (.iload 4, 2) := by decide +kernel
theorem d_Fi_write_75 : decode k_Fi_write.1 75 = .ok (.iconst 1, 1) := by decide +kernel
theorem d_Fi_write_76 : decode k_Fi_write.1 76 = .ok (.isub, 1) := by decide +kernel
theorem d_Fi_write_77 : decode k_Fi_write.1 77 = .ok (.istore 5, 2) := by decide +kernel
theorem d_Fi_write_79 : decode k_Fi_write.1 79 = .ok (.iload 5, 2) := by decide +kernel
theorem d_Fi_write_81 : decode k_Fi_write.1 81 = .ok (.ifCond .lt 23, 3) := by decide +kernel
theorem d_Fi_write_84 : decode k_Fi_write.1 84 = .ok (.aload_n 0, 1) := by decide +kernel
theorem d_Fi_write_85 : decode k_Fi_write.1 85 = .ok (.getfield 10, 3) := by decide +kernel
theorem d_Fi_write_88 : decode k_Fi_write.1 88 = .ok (.iload_n 1, 1) := by decide +kernel
theorem d_Fi_write_89 : decode k_Fi_write.1 89 = .ok (.lload_n 2, 1) := by decide +kernel
theorem d_Fi_write_90 : decode k_Fi_write.1 90 = .ok (.iload 5, 2) := by decide +kernel
theorem d_Fi_write_92 : decode k_Fi_write.1 92 = .ok (.invokestatic 89, 3) := by decide +kernel
theorem d_Fi_write_95 : decode k_Fi_write.1 95 = .ok (.invokevirtual 93, 3) := by decide +kernel
theorem d_Fi_write_98 : decode k_Fi_write.1 98 = .ok (.iinc 5 (-1), 3) := by decide +kernel
theorem d_Fi_write_101 : decode k_Fi_write.1 101 = .ok (.goto (-22), 3) := by decide +kernel
theorem d_Fi_write_104 : decode k_Fi_write.1 104 = .ok (.aload_n 0, 1) := by decide +kernel
theorem d_Fi_write_105 : decode k_Fi_write.1 105 = .ok (.getfield 19, 3) := by decide +kernel
theorem d_Fi_write_108 : decode k_Fi_write.1 108 = .ok (.iload_n 1, 1) := by decide +kernel
theorem d_Fi_write_109 : decode k_Fi_write.1 109 = .ok (.iconst 2, 1) := by decide +kernel
theorem d_Fi_write_110 : decode k_Fi_write.1 110 = .ok (.invokevirtual 71, 3) := by decide +kernel
theorem d_Fi_write_113 : decode k_Fi_write.1 113 = .ok (.aload_n 0, 1) := by decide +kernel
theorem d_Fi_write_114 : decode k_Fi_write.1 114 = .ok (.getfield 10, 3) := by decide +kernel
theorem d_Fi_write_117 : decode k_Fi_write.1 117 = .ok (.iload_n 1, 1) := by decide +kernel
theorem d_Fi_write_118 : decode k_Fi_write.1 118 = .ok (.invokevirtual 85, 3) := by decide +kernel
theorem d_Fi_write_121 : decode k_Fi_write.1 121 = .ok (.ireturn, 1) := by decide +kernel
theorem d_Fi_areCodes_0 : decode k_Fi_areCodes.1 0 = .ok (.iconst 0, 1) := by decide +kernel
theorem d_Fi_areCodes_1 : decode k_Fi_areCodes.1 1 = .ok (.istore_n 3, 1) := by decide +kernel
theorem d_Fi_areCodes_2 : decode k_Fi_areCodes.1 2 = .ok (.iload_n 3, 1) := by decide +kernel
theorem d_Fi_areCodes_3 : decode k_Fi_areCodes.1 3 = .ok (.iload_n 2, 1) := by decide +kernel
theorem d_Fi_areCodes_4 : decode k_Fi_areCodes.1 4 = .ok (.if_icmp .ge 22, 3) := by decide +kernel
theorem d_Fi_areCodes_7 : decode k_Fi_areCodes.1 7 = .ok (.lload_n 0, 1) := by decide +kernel
theorem d_Fi_areCodes_8 : decode k_Fi_areCodes.1 8 = .ok (.iload_n 3, 1) := by decide +kernel
theorem d_Fi_areCodes_9 : decode k_Fi_areCodes.1 9 = .ok (.invokestatic 89, 3) := by decide +kernel
theorem d_Fi_areCodes_12 : decode k_Fi_areCodes.1 12 = .ok (.invokestatic 148, 3) := by decide +kernel
theorem d_Fi_areCodes_15 : decode k_Fi_areCodes.1 15 = .ok (.ifCond .ne 5, 3) := by decide +kernel
theorem d_Fi_areCodes_18 : decode k_Fi_areCodes.1 18 = .ok (.iconst 0, 1) := by decide +kernel
theorem d_Fi_areCodes_19 : decode k_Fi_areCodes.1 19 = .ok (.ireturn, 1) := by decide +kernel
theorem d_Fi_areCodes_20 : decode k_Fi_areCodes.1 20 = .ok (.iinc 3 1, 3) := by decide +kernel
theorem d_Fi_areCodes_23 : decode k_Fi_areCodes.1 23 = .ok (.goto (-21), 3) := by decide +kernel
theorem d_Fi_areCodes_26 : decode k_Fi_areCodes.1 26 = .ok (.iconst 1, 1) := by decide +kernel
theorem d_Fi_areCodes_27 : decode k_Fi_areCodes.1 27 = .ok (.ireturn, 1) := by decide +kernel
theorem d_Fi_byteOf_0 : decode k_Fi_byteOf.1 0 = .ok (.lload_n 0, 1) := by decide +kernel
theorem d_Fi_byteOf_1 : decode k_Fi_byteOf.1 1 = .ok (.bipush 8, 2) := by decide +kernel
theorem d_Fi_byteOf_3 : decode k_Fi_byteOf.1 3 = .ok (.iload_n 2, 1) := by decide +kernel
theorem d_Fi_byteOf_4 : decode k_Fi_byteOf.1 4 = .ok (.imul, 1) := by decide +kernel
theorem d_Fi_byteOf_5 : decode k_Fi_byteOf.1 5 = .ok (.lushr, 1) := by decide +kernel
theorem d_Fi_byteOf_6 : decode k_Fi_byteOf.1 6 = .ok (.l2i, 1) := by decide +kernel
theorem d_Fi_byteOf_7 : decode k_Fi_byteOf.1 7 = .ok (.sipush 255, 3) := by decide +kernel
theorem d_Fi_byteOf_10 : decode k_Fi_byteOf.1 10 = .ok (.iand, 1) := by decide +kernel
theorem d_Fi_byteOf_11 : decode k_Fi_byteOf.1 11 = .ok (.ireturn, 1) := by decide +kernel
theorem d_Fi_isCode_0 : decode k_Fi_isCode.1 0 = .ok (.iload_n 0, 1) := by decide +kernel
theorem d_Fi_isCode_1 : decode k_Fi_isCode.1 1 = .ok (.bipush 32, 2) := by decide +kernel
theorem d_Fi_isCode_3 : decode k_Fi_isCode.1 3 = .ok (.if_icmp .lt 13, 3) := by decide +kernel
theorem d_Fi_isCode_6 : decode k_Fi_isCode.1 6 = .ok (.iload_n 0, 1) := by decide +kernel
theorem d_Fi_isCode_7 : decode k_Fi_isCode.1 7 = .ok (.bipush 126, 2) := by decide +kernel
theorem d_Fi_isCode_9 : decode k_Fi_isCode.1 9 = .ok (.if_icmp .gt 7, 3) := by decide +kernel
theorem d_Fi_isCode_12 : decode k_Fi_isCode.1 12 = .ok (.iconst 1, 1) := by decide +kernel
theorem d_Fi_isCode_13 : decode k_Fi_isCode.1 13 = .ok (.goto 4, 3) := by decide +kernel
theorem d_Fi_isCode_16 : decode k_Fi_isCode.1 16 = .ok (.iconst 0, 1) := by decide +kernel
theorem d_Fi_isCode_17 : decode k_Fi_isCode.1 17 = .ok (.ireturn, 1) := by decide +kernel
theorem d_Fi_cut_0 : decode k_Fi_cut.1 0 = .ok (.aload_n 0, 1) := by decide +kernel
theorem d_Fi_cut_1 : decode k_Fi_cut.1 1 = .ok (.getfield 10, 3) := by decide +kernel
theorem d_Fi_cut_4 : decode k_Fi_cut.1 4 = .ok (.iload_n 1, 1) := by decide +kernel
theorem d_Fi_cut_5 : decode k_Fi_cut.1 5 = .ok (.invokevirtual 75, 3) := by decide +kernel
theorem d_Fi_cut_8 : decode k_Fi_cut.1 8 = .ok (.ifCond .ne 11, 3) := by decide +kernel
theorem d_Fi_cut_11 : decode k_Fi_cut.1 11 = .ok (.new 78, 3) := by decide +kernel
theorem d_Fi_cut_14 : decode k_Fi_cut.1 14 = .ok (.dup, 1) := by decide +kernel
theorem d_Fi_cut_15 : decode k_Fi_cut.1 15 = .ok (.invokespecial 80, 3) := by decide +kernel
theorem d_Fi_cut_18 : decode k_Fi_cut.1 18 = .ok (.athrow, 1) := by decide +kernel
theorem d_Fi_cut_19 : decode k_Fi_cut.1 19 = .ok (.iload_n 2, 1) := by decide +kernel
theorem d_Fi_cut_20 : decode k_Fi_cut.1 20 = .ok (.ifCond .lt 15, 3) := by decide +kernel
theorem d_Fi_cut_23 : decode k_Fi_cut.1 23 = .ok (.iload_n 2, 1) := by decide +kernel
theorem d_Fi_cut_24 : decode k_Fi_cut.1 24 = .ok (.aload_n 0, 1) := by decide +kernel
theorem d_Fi_cut_25 : decode k_Fi_cut.1 25 = .ok (.getfield 10, 3) := by decide +kernel
theorem d_Fi_cut_28 : decode k_Fi_cut.1 28 = .ok (.iload_n 1, 1) := by decide +kernel
theorem d_Fi_cut_29 : decode k_Fi_cut.1 29 = .ok (.invokevirtual 85, 3) := by decide +kernel
theorem d_Fi_cut_32 : decode k_Fi_cut.1 32 = .ok (.if_icmp .le 11, 3) := by decide +kernel
theorem d_Fi_cut_35 : decode k_Fi_cut.1 35 = .ok (.new 55, 3) := by decide +kernel
theorem d_Fi_cut_38 : decode k_Fi_cut.1 38 = .ok (.dup, 1) := by decide +kernel
theorem d_Fi_cut_39 : decode k_Fi_cut.1 39 = .ok (.invokespecial 57, 3) := by decide +kernel
theorem d_Fi_cut_42 : decode k_Fi_cut.1 42 = .ok (.athrow, 1) := by decide +kernel
theorem d_Fi_cut_43 : decode k_Fi_cut.1 43 = .ok (.aload_n 0, 1) := by decide +kernel
theorem d_Fi_cut_44 : decode k_Fi_cut.1 44 = .ok (.getfield 10, 3) := by decide +kernel
theorem d_Fi_cut_47 : decode k_Fi_cut.1 47 = .ok (.iload_n 1, 1) := by decide +kernel
theorem d_Fi_cut_48 : decode k_Fi_cut.1 48 = .ok (.invokevirtual 85, 3) := by decide +kernel
theorem d_Fi_cut_51 : decode k_Fi_cut.1 51 = .ok (.iload_n 2, 1) := by decide +kernel
theorem d_Fi_cut_52 : decode k_Fi_cut.1 52 = .ok (.isub, 1) := by decide +kernel
theorem d_Fi_cut_53 : decode k_Fi_cut.1 53 = .ok (.istore_n 3, 1) := by decide +kernel
theorem d_Fi_cut_54 : decode k_Fi_cut.1 54 = .ok (.iload_n 3, 1) := by decide +kernel
theorem d_Fi_cut_55 : decode k_Fi_cut.1 55 = .ok (.ifCond .le 21, 3) := by decide +kernel
theorem d_Fi_cut_58 : decode k_Fi_cut.1 58 = .ok (.aload_n 0, 1) := by decide +kernel
theorem d_Fi_cut_59 : decode k_Fi_cut.1 59 = .ok (.getfield 10, 3) := by decide +kernel
theorem d_Fi_cut_62 : decode k_Fi_cut.1 62 = .ok (.iload_n 1, 1) := by decide +kernel
theorem d_Fi_cut_63 : decode k_Fi_cut.1 63 = .ok (.iload_n 2, 1) := by decide +kernel
theorem d_Fi_cut_64 : decode k_Fi_cut.1 64 = .ok (.invokevirtual 96, 3) := by decide +kernel
theorem d_Fi_cut_67 : decode k_Fi_cut.1 67 = .ok (.aload_n 0, 1) := by decide +kernel
theorem d_Fi_cut_68 : decode k_Fi_cut.1 68 = .ok (.getfield 19, 3) := by decide +kernel
theorem d_Fi_cut_71 : decode k_Fi_cut.1 71 = .ok (.iload_n 1, 1) := by decide +kernel
theorem d_Fi_cut_72 : decode k_Fi_cut.1 72 = .ok (.iconst 2, 1) := by decide +kernel
theorem d_Fi_cut_73 : decode k_Fi_cut.1 73 = .ok (.invokevirtual 71, 3) := by decide +kernel
theorem d_Fi_cut_76 : decode k_Fi_cut.1 76 = .ok (.iload_n 3, 1) := by decide +kernel
theorem d_Fi_cut_77 : decode k_Fi_cut.1 77 = .ok (.ireturn, 1) := by decide +kernel
theorem d_Fi_remove_0 : decode k_Fi_remove.1 0 = .ok (.iload_n 1, 1) := by decide +kernel
theorem d_Fi_remove_1 : decode k_Fi_remove.1 1 = .ok (.invokestatic 48, 3) := by decide +kernel
theorem d_Fi_remove_4 : decode k_Fi_remove.1 4 = .ok (.ifCond .ne 11, 3) := by decide +kernel
theorem d_Fi_remove_7 : decode k_Fi_remove.1 7 = .ok (.new 55, 3) := by decide +kernel
theorem d_Fi_remove_10 : decode k_Fi_remove.1 10 = .ok (.dup, 1) := by decide +kernel
theorem d_Fi_remove_11 : decode k_Fi_remove.1 11 = .ok (.invokespecial 57, 3) := by decide +kernel
theorem d_Fi_remove_14 : decode k_Fi_remove.1 14 = .ok (.athrow, 1) := by decide +kernel
theorem d_Fi_remove_15 : decode k_Fi_remove.1 15 = .ok (.aload_n 0, 1) := by decide +kernel
theorem d_Fi_remove_16 : decode k_Fi_remove.1 16 = .ok (.getfield 10, 3) := by decide +kernel
theorem d_Fi_remove_19 : decode k_Fi_remove.1 19 = .ok (.iload_n 1, 1) := by decide +kernel
theorem d_Fi_remove_20 : decode k_Fi_remove.1 20 = .ok (.invokevirtual 58, 3) := by decide +kernel
theorem d_Fi_remove_23 : decode k_Fi_remove.1 23 = .ok (.ifCond .ne 11, 3) := by decide +kernel
theorem d_Fi_remove_26 : decode k_Fi_remove.1 26 = .ok (.new 78, 3) := by decide +kernel
theorem d_Fi_remove_29 : decode k_Fi_remove.1 29 = .ok (.dup, 1) := by decide +kernel
theorem d_Fi_remove_30 : decode k_Fi_remove.1 30 = .ok (.invokespecial 80, 3) := by decide +kernel
theorem d_Fi_remove_33 : decode k_Fi_remove.1 33 = .ok (.athrow, 1) := by decide +kernel
theorem d_Fi_remove_34 : decode k_Fi_remove.1 34 = .ok (.iconst 0, 1) := by decide +kernel
theorem d_Fi_remove_35 : decode k_Fi_remove.1 35 = .ok (.istore_n 2, 1) := by decide +kernel
theorem d_Fi_remove_36 : decode k_Fi_remove.1 36 = .ok (.iconst 1, 1) := by decide +kernel
theorem d_Fi_remove_37 : decode k_Fi_remove.1 37 = .ok (.istore_n 3, 1) := by decide +kernel
theorem d_Fi_remove_38 : decode k_Fi_remove.1 38 = .ok (.iload_n 3, 1) := by decide +kernel
theorem d_Fi_remove_39 : decode k_Fi_remove.1 39 = .ok (.bipush 16, 2) := by decide +kernel
theorem d_Fi_remove_41 : decode k_Fi_remove.1 41 = .ok (.if_icmp .ge 34, 3) := by decide +kernel
theorem d_Fi_remove_44 : decode k_Fi_remove.1 44 = .ok (.iload_n 3, 1) := by decide +kernel
theorem d_Fi_remove_45 : decode k_Fi_remove.1 45 = .ok (.iload_n 1, 1) := by decide +kernel
theorem d_Fi_remove_46 : decode k_Fi_remove.1 46 = .ok (.if_icmp .eq 15, 3) := by decide +kernel
theorem d_Fi_remove_49 : decode k_Fi_remove.1 49 = .ok (.aload_n 0, 1) := by decide +kernel
theorem d_Fi_remove_50 : decode k_Fi_remove.1 50 = .ok (.getfield 10, 3) := by decide +kernel
theorem d_Fi_remove_53 : decode k_Fi_remove.1 53 = .ok (.iload_n 3, 1) := by decide +kernel
theorem d_Fi_remove_54 : decode k_Fi_remove.1 54 = .ok (.iload_n 1, 1) := by decide +kernel
theorem d_Fi_remove_55 : decode k_Fi_remove.1 55 = .ok (.invokevirtual 99, 3) := by decide +kernel
theorem d_Fi_remove_58 : decode k_Fi_remove.1 58 = .ok (.ifCond .eq 11, 3) := by decide +kernel
theorem d_Fi_remove_61 : decode k_Fi_remove.1 61 = .ok (.aload_n 0, 1) := by decide +kernel
theorem d_Fi_remove_62 : decode k_Fi_remove.1 62 = .ok (.iload_n 3, 1) := by decide +kernel
theorem d_Fi_remove_63 : decode k_Fi_remove.1 63 = .ok (.invokevirtual 103, 3) := by decide +kernel
theorem d_Fi_remove_66 : decode k_Fi_remove.1 66 = .ok (.iinc 2 1, 3) := by decide +kernel
theorem d_Fi_remove_69 : decode k_Fi_remove.1 69 = .ok (.iinc 3 1, 3) := by decide +kernel
theorem d_Fi_remove_72 : decode k_Fi_remove.1 72 = .ok (.goto (-34), 3) := by decide +kernel
theorem d_Fi_remove_75 : decode k_Fi_remove.1 75 = .ok (.iload_n 2, 1) := by decide +kernel
theorem d_Fi_remove_76 : decode k_Fi_remove.1 76 = .ok (.ireturn, 1) := by decide +kernel
theorem d_Fi_removeOne_0 : decode k_Fi_removeOne.1 0 = .ok (.aload_n 0, 1) := by decide +kernel
theorem d_Fi_removeOne_1 : decode k_Fi_removeOne.1 1 = .ok (.getfield 10, 3) := by decide +kernel
theorem d_Fi_removeOne_4 : decode k_Fi_removeOne.1 4 = .ok (.iload_n 1, 1) := by decide +kernel
theorem d_Fi_removeOne_5 : decode k_Fi_removeOne.1 5 = .ok (.invokevirtual 75, 3) := by decide +kernel
theorem d_Fi_removeOne_8 : decode k_Fi_removeOne.1 8 = .ok (.istore_n 2, 1) := by decide +kernel
theorem d_Fi_removeOne_9 : decode k_Fi_removeOne.1 9 = .ok (.aload_n 0, 1) := by decide +kernel
theorem d_Fi_removeOne_10 : decode k_Fi_removeOne.1 10 = .ok (.getfield 10, 3) := by decide +kernel
theorem d_Fi_removeOne_13 : decode k_Fi_removeOne.1 13 = .ok (.iload_n 1, 1) := by decide +kernel
theorem d_Fi_removeOne_14 : decode k_Fi_removeOne.1 14 = .ok (.invokevirtual 196, 3) := by decide +kernel
theorem d_Fi_removeOne_17 : decode k_Fi_removeOne.1 17 = .ok (.iload_n 2, 1) := by decide +kernel
theorem d_Fi_removeOne_18 : decode k_Fi_removeOne.1 18 = .ok (.ifCond .eq 12, 3) := by decide +kernel
theorem d_Fi_removeOne_21 : decode k_Fi_removeOne.1 21 = .ok (.aload_n 0, 1) := by decide +kernel
theorem d_Fi_removeOne_22 : decode k_Fi_removeOne.1 22 = .ok (.getfield 19, 3) := by decide +kernel
theorem d_Fi_removeOne_25 : decode k_Fi_removeOne.1 25 = .ok (.iload_n 1, 1) := by decide +kernel
theorem d_Fi_removeOne_26 : decode k_Fi_removeOne.1 26 = .ok (.iconst 3, 1) := by decide +kernel
theorem d_Fi_removeOne_27 : decode k_Fi_removeOne.1 27 = .ok (.invokevirtual 71, 3) := by decide +kernel
theorem d_Fi_removeOne_30 : decode k_Fi_removeOne.1 30 = .ok (.return_, 1) := by decide +kernel
theorem d_Fi_move_0 : decode k_Fi_move.1 0 = .ok (.iload_n 1, 1) := by decide +kernel
theorem d_Fi_move_1 : decode k_Fi_move.1 1 = .ok (.invokestatic 48, 3) := by decide +kernel
theorem d_Fi_move_4 : decode k_Fi_move.1 4 = .ok (.ifCond .eq 10, 3) := by decide +kernel
theorem d_Fi_move_7 : decode k_Fi_move.1 7 = .ok (.iload_n 2, 1) := by decide +kernel
theorem d_Fi_move_8 : decode k_Fi_move.1 8 = .ok (.invokestatic 52, 3) := by decide +kernel
theorem d_Fi_move_11 : decode k_Fi_move.1 11 = .ok (.ifCond .ne 11, 3) := by decide +kernel
theorem d_Fi_move_14 : decode k_Fi_move.1 14 = .ok (.new 55, 3) := by decide +kernel
theorem d_Fi_move_17 : decode k_Fi_move.1 17 = .ok (.dup, 1) := by decide +kernel
theorem d_Fi_move_18 : decode k_Fi_move.1 18 = .ok (.invokespecial 57, 3) := by decide +kernel
theorem d_Fi_move_21 : decode k_Fi_move.1 21 = .ok (.athrow, 1) := by decide +kernel
theorem d_Fi_move_22 : decode k_Fi_move.1 22 = .ok (.aload_n 0, 1) := by decide +kernel
theorem d_Fi_move_23 : decode k_Fi_move.1 23 = .ok (.getfield 10, 3) := by decide +kernel
theorem d_Fi_move_26 : decode k_Fi_move.1 26 = .ok (.iload_n 1, 1) := by decide +kernel
theorem d_Fi_move_27 : decode k_Fi_move.1 27 = .ok (.invokevirtual 58, 3) := by decide +kernel
theorem d_Fi_move_30 : decode k_Fi_move.1 30 = .ok (.ifCond .eq 14, 3) := by decide +kernel
theorem d_Fi_move_33 : decode k_Fi_move.1 33 = .ok (.aload_n 0, 1) := by decide +kernel
theorem d_Fi_move_34 : decode k_Fi_move.1 34 = .ok (.getfield 10, 3) := by decide +kernel
theorem d_Fi_move_37 : decode k_Fi_move.1 37 = .ok (.iload_n 2, 1) := by decide +kernel
theorem d_Fi_move_38 : decode k_Fi_move.1 38 = .ok (.invokevirtual 61, 3) := by decide +kernel
theorem d_Fi_move_41 : decode k_Fi_move.1 41 = .ok (.ifCond .ne 11, 3) := by decide +kernel
theorem d_Fi_move_44 : decode k_Fi_move.1 44 = .ok (.new 78, 3) := by decide +kernel
theorem d_Fi_move_47 : decode k_Fi_move.1 47 = .ok (.dup, 1) := by decide +kernel
theorem d_Fi_move_48 : decode k_Fi_move.1 48 = .ok (.invokespecial 80, 3) := by decide +kernel
theorem d_Fi_move_51 : decode k_Fi_move.1 51 = .ok (.athrow, 1) := by decide +kernel
theorem d_Fi_move_52 : decode k_Fi_move.1 52 = .ok (.iload_n 2, 1) := by decide +kernel
theorem d_Fi_move_53 : decode k_Fi_move.1 53 = .ok (.iload_n 1, 1) := by decide +kernel
theorem d_Fi_move_54 : decode k_Fi_move.1 54 = .ok (.if_icmp .eq 15, 3) := by decide +kernel
theorem d_Fi_move_57 : decode k_Fi_move.1 57 = .ok (.aload_n 0, 1) := by decide +kernel
theorem d_Fi_move_58 : decode k_Fi_move.1 58 = .ok (.getfield 10, 3) := by decide +kernel
theorem d_Fi_move_61 : decode k_Fi_move.1 61 = .ok (.iload_n 2, 1) := by decide +kernel
theorem d_Fi_move_62 : decode k_Fi_move.1 62 = .ok (.iload_n 1, 1) := by decide +kernel
theorem d_Fi_move_63 : decode k_Fi_move.1 63 = .ok (.invokevirtual 99, 3) := by decide +kernel
theorem d_Fi_move_66 : decode k_Fi_move.1 66 = .ok (.ifCond .eq 11, 3) := by decide +kernel
theorem d_Fi_move_69 : decode k_Fi_move.1 69 = .ok (.new 64, 3) := by decide +kernel
theorem d_Fi_move_72 : decode k_Fi_move.1 72 = .ok (.dup, 1) := by decide +kernel
theorem d_Fi_move_73 : decode k_Fi_move.1 73 = .ok (.invokespecial 66, 3) := by decide +kernel
theorem d_Fi_move_76 : decode k_Fi_move.1 76 = .ok (.athrow, 1) := by decide +kernel
theorem d_Fi_move_77 : decode k_Fi_move.1 77 = .ok (.aload_n 0, 1) := by decide +kernel
theorem d_Fi_move_78 : decode k_Fi_move.1 78 = .ok (.getfield 10, 3) := by decide +kernel
theorem d_Fi_move_81 : decode k_Fi_move.1 81 = .ok (.iload_n 1, 1) := by decide +kernel
theorem d_Fi_move_82 : decode k_Fi_move.1 82 = .ok (.invokevirtual 107, 3) := by decide +kernel
theorem d_Fi_move_85 : decode k_Fi_move.1 85 = .ok (.iload_n 2, 1) := by decide +kernel
theorem d_Fi_move_86 : decode k_Fi_move.1 86 = .ok (.if_icmp .ne 5, 3) := by decide +kernel
theorem d_Fi_move_89 : decode k_Fi_move.1 89 = .ok (.iconst 0, 1) := by decide +kernel
theorem d_Fi_move_90 : decode k_Fi_move.1 90 = .ok (.ireturn, 1) := by decide +kernel
theorem d_Fi_move_91 : decode k_Fi_move.1 91 = .ok (.aload_n 0, 1) := by decide +kernel
theorem d_Fi_move_92 : decode k_Fi_move.1 92 = .ok (.getfield 10, 3) := by decide +kernel
theorem d_Fi_move_95 : decode k_Fi_move.1 95 = .ok (.iload_n 1, 1) := by decide +kernel
theorem d_Fi_move_96 : decode k_Fi_move.1 96 = .ok (.iload_n 2, 1) := by decide +kernel
theorem d_Fi_move_97 : decode k_Fi_move.1 97 = .ok (.invokevirtual 110, 3) := by decide +kernel
theorem d_Fi_move_100 : decode k_Fi_move.1 100 = .ok (.iconst 1, 1) := by decide +kernel
theorem d_Fi_move_101 : decode k_Fi_move.1 101 = .ok (.ireturn, 1) := by decide +kernel
theorem d_Fi_work_0 : decode k_Fi_work.1 0 = .ok (.iload_n 1, 1) := by decide +kernel
theorem d_Fi_work_1 : decode k_Fi_work.1 1 = .ok (.iconst 1, 1) := by decide +kernel
theorem d_Fi_work_2 : decode k_Fi_work.1 2 = .ok (.if_icmp .lt 9, 3) := by decide +kernel
theorem d_Fi_work_5 : decode k_Fi_work.1 5 = .ok (.iload_n 1, 1) := by decide +kernel
theorem d_Fi_work_6 : decode k_Fi_work.1 6 = .ok (.bipush 8, 2) := by decide +kernel
theorem d_Fi_work_8 : decode k_Fi_work.1 8 = .ok (.if_icmp .le 11, 3) := by decide +kernel
theorem d_Fi_work_11 : decode k_Fi_work.1 11 = .ok (.new 55, 3) := by decide +kernel
theorem d_Fi_work_14 : decode k_Fi_work.1 14 = .ok (.dup, 1) := by decide +kernel
theorem d_Fi_work_15 : decode k_Fi_work.1 15 = .ok (.invokespecial 57, 3) := by decide +kernel
theorem d_Fi_work_18 : decode k_Fi_work.1 18 = .ok (.athrow, 1) := by decide +kernel
theorem d_Fi_work_19 : decode k_Fi_work.1 19 = .ok (.aload_n 0, 1) := by decide +kernel
theorem d_Fi_work_20 : decode k_Fi_work.1 20 = .ok (.getfield 19, 3) := by decide +kernel
theorem d_Fi_work_23 : decode k_Fi_work.1 23 = .ok (.invokevirtual 113, 3) := by decide +kernel
theorem d_Fi_work_26 : decode k_Fi_work.1 26 = .ok (.ifCond .eq 11, 3) := by decide +kernel
theorem d_Fi_work_29 : decode k_Fi_work.1 29 = .ok (.new 64, 3) := by decide +kernel
theorem d_Fi_work_32 : decode k_Fi_work.1 32 = .ok (.dup, 1) := by decide +kernel
theorem d_Fi_work_33 : decode k_Fi_work.1 33 = .ok (.invokespecial 66, 3) := by decide +kernel
theorem d_Fi_work_36 : decode k_Fi_work.1 36 = .ok (.athrow, 1) := by decide +kernel
theorem d_Fi_work_37 : decode k_Fi_work.1 37 = .ok (.iload_n 1, 1) := by decide +kernel
theorem d_Fi_work_38 : decode k_Fi_work.1 38 = .ok (.aload_n 0, 1) := by decide +kernel
theorem d_Fi_work_39 : decode k_Fi_work.1 39 = .ok (.getfield 19, 3) := by decide +kernel
theorem d_Fi_work_42 : decode k_Fi_work.1 42 = .ok (.invokevirtual 117, 3) := by decide +kernel
theorem d_Fi_work_45 : decode k_Fi_work.1 45 = .ok (.invokestatic 121, 3) := by decide +kernel
theorem d_Fi_work_48 : decode k_Fi_work.1 48 = .ok (.istore_n 2, 1) := by decide +kernel
theorem d_Fi_work_49 : decode k_Fi_work.1 49 = .ok (.iconst 0, 1) := by decide +kernel
theorem d_Fi_work_50 : decode k_Fi_work.1 50 = .ok (.istore_n 3, 1) := by decide +kernel
theorem d_Fi_work_51 : decode k_Fi_work.1 51 = .ok (.iload_n 3, 1) := by decide +kernel
theorem d_Fi_work_52 : decode k_Fi_work.1 52 = .ok (.iload_n 2, 1) := by decide +kernel
theorem d_Fi_work_53 : decode k_Fi_work.1 53 = .ok (.if_icmp .ge 37, 3) := by decide +kernel
theorem d_Fi_work_56 : decode k_Fi_work.1 56 = .ok (.aload_n 0, 1) := by decide +kernel
theorem d_Fi_work_57 : decode k_Fi_work.1 57 = .ok (.aload_n 0, 1) := by decide +kernel
theorem d_Fi_work_58 : decode k_Fi_work.1 58 = .ok (.getfield 19, 3) := by decide +kernel
theorem d_Fi_work_61 : decode k_Fi_work.1 61 = .ok (.iconst 0, 1) := by decide +kernel
theorem d_Fi_work_62 : decode k_Fi_work.1 62 = .ok (.invokevirtual 127, 3) := by decide +kernel
theorem d_Fi_work_65 : decode k_Fi_work.1 65 = .ok (.aload_n 0, 1) := by decide +kernel
theorem d_Fi_work_66 : decode k_Fi_work.1 66 = .ok (.getfield 19, 3) := by decide +kernel
theorem d_Fi_work_69 : decode k_Fi_work.1 69 = .ok (.iconst 0, 1) := by decide +kernel
theorem d_Fi_work_70 : decode k_Fi_work.1 70 = .ok (.invokevirtual 130, 3) := by decide +kernel
theorem d_Fi_work_73 : decode k_Fi_work.1 73 = .ok (.invokevirtual 133, 3) := by decide +kernel
theorem d_Fi_work_76 : decode k_Fi_work.1 76 = .ok (.aload_n 0, 1) := by decide +kernel
theorem d_Fi_work_77 : decode k_Fi_work.1 77 = .ok (.getfield 19, 3) := by decide +kernel
theorem d_Fi_work_80 : decode k_Fi_work.1 80 = .ok (.iconst 0, 1) := by decide +kernel
theorem d_Fi_work_81 : decode k_Fi_work.1 81 = .ok (.invokevirtual 136, 3) := by decide +kernel
theorem d_Fi_work_84 : decode k_Fi_work.1 84 = .ok (.iinc 3 1, 3) := by decide +kernel
theorem d_Fi_work_87 : decode k_Fi_work.1 87 = .ok (.goto (-36), 3) := by decide +kernel
theorem d_Fi_work_90 : decode k_Fi_work.1 90 = .ok (.iload_n 2, 1) := by decide +kernel
theorem d_Fi_work_91 : decode k_Fi_work.1 91 = .ok (.ireturn, 1) := by decide +kernel
theorem d_Fi_follow_0 : decode k_Fi_follow.1 0 = .ok (.iload_n 1, 1) := by decide +kernel
theorem d_Fi_follow_1 : decode k_Fi_follow.1 1 = .ok (.iconst 3, 1) := by decide +kernel
theorem d_Fi_follow_2 : decode k_Fi_follow.1 2 = .ok (.if_icmp .ne 14, 3) := by decide +kernel
theorem d_Fi_follow_5 : decode k_Fi_follow.1 5 = .ok (.aload_n 0, 1) := by decide +kernel
theorem d_Fi_follow_6 : decode k_Fi_follow.1 6 = .ok (.getfield 26, 3) := by decide +kernel
theorem d_Fi_follow_9 : decode k_Fi_follow.1 9 = .ok (.iload_n 2, 1) := by decide +kernel
theorem d_Fi_follow_10 : decode k_Fi_follow.1 10 = .ok (.invokevirtual 142, 3) := by decide +kernel
theorem d_Fi_follow_13 : decode k_Fi_follow.1 13 = .ok (.goto 8, 3) := by decide +kernel
theorem d_Fi_follow_16 : decode k_Fi_follow.1 16 = .ok (.aload_n 0, 1) := by decide +kernel
theorem d_Fi_follow_17 : decode k_Fi_follow.1 17 = .ok (.iload_n 2, 1) := by decide +kernel
theorem d_Fi_follow_18 : decode k_Fi_follow.1 18 = .ok (.invokevirtual 139, 3) := by decide +kernel
theorem d_Fi_follow_21 : decode k_Fi_follow.1 21 = .ok (.return_, 1) := by decide +kernel
theorem d_Fi_type_0 : decode k_Fi_type.1 0 = .ok (.iload_n 1, 1) := by decide +kernel
theorem d_Fi_type_1 : decode k_Fi_type.1 1 = .ok (.invokestatic 148, 3) := by decide +kernel
theorem d_Fi_type_4 : decode k_Fi_type.1 4 = .ok (.ifCond .ne 11, 3) := by decide +kernel
theorem d_Fi_type_7 : decode k_Fi_type.1 7 = .ok (.new 55, 3) := by decide +kernel
theorem d_Fi_type_10 : decode k_Fi_type.1 10 = .ok (.dup, 1) := by decide +kernel
theorem d_Fi_type_11 : decode k_Fi_type.1 11 = .ok (.invokespecial 57, 3) := by decide +kernel
theorem d_Fi_type_14 : decode k_Fi_type.1 14 = .ok (.athrow, 1) := by decide +kernel
theorem d_Fi_type_15 : decode k_Fi_type.1 15 = .ok (.aload_n 0, 1) := by decide +kernel
theorem d_Fi_type_16 : decode k_Fi_type.1 16 = .ok (.getfield 33, 3) := by decide +kernel
theorem d_Fi_type_19 : decode k_Fi_type.1 19 = .ok (.invokevirtual 151, 3) := by decide +kernel
theorem d_Fi_type_22 : decode k_Fi_type.1 22 = .ok (.bipush 40, 2) := by decide +kernel
theorem d_Fi_type_24 : decode k_Fi_type.1 24 = .ok (.if_icmp .lt 11, 3) := by decide +kernel
theorem d_Fi_type_27 : decode k_Fi_type.1 27 = .ok (.new 64, 3) := by decide +kernel
theorem d_Fi_type_30 : decode k_Fi_type.1 30 = .ok (.dup, 1) := by decide +kernel
theorem d_Fi_type_31 : decode k_Fi_type.1 31 = .ok (.invokespecial 66, 3) := by decide +kernel
theorem d_Fi_type_34 : decode k_Fi_type.1 34 = .ok (.athrow, 1) := by decide +kernel
theorem d_Fi_type_35 : decode k_Fi_type.1 35 = .ok (.aload_n 0, 1) := by decide +kernel
theorem d_Fi_type_36 : decode k_Fi_type.1 36 = .ok (.getfield 33, 3) := by decide +kernel
theorem d_Fi_type_39 : decode k_Fi_type.1 39 = .ok (.iload_n 1, 1) := by decide +kernel
theorem d_Fi_type_40 : decode k_Fi_type.1 40 = .ok (.invokevirtual 154, 3) := by decide +kernel
theorem d_Fi_type_43 : decode k_Fi_type.1 43 = .ok (.aload_n 0, 1) := by decide +kernel
theorem d_Fi_type_44 : decode k_Fi_type.1 44 = .ok (.getfield 33, 3) := by decide +kernel
theorem d_Fi_type_47 : decode k_Fi_type.1 47 = .ok (.invokevirtual 151, 3) := by decide +kernel
theorem d_Fi_type_50 : decode k_Fi_type.1 50 = .ok (.ireturn, 1) := by decide +kernel
theorem d_Fi_search_0 : decode k_Fi_search.1 0 = .ok (.aload_n 0, 1) := by decide +kernel
theorem d_Fi_search_1 : decode k_Fi_search.1 1 = .ok (.getfield 10, 3) := by decide +kernel
theorem d_Fi_search_4 : decode k_Fi_search.1 4 = .ok (.iload_n 1, 1) := by decide +kernel
theorem d_Fi_search_5 : decode k_Fi_search.1 5 = .ok (.invokevirtual 61, 3) := by decide +kernel
theorem d_Fi_search_8 : decode k_Fi_search.1 8 = .ok (.ifCond .ne 11, 3) := by decide +kernel
theorem d_Fi_search_11 : decode k_Fi_search.1 11 = .ok (.new 78, 3) := by decide +kernel
theorem d_Fi_search_14 : decode k_Fi_search.1 14 = .ok (.dup, 1) := by decide +kernel
theorem d_Fi_search_15 : decode k_Fi_search.1 15 = .ok (.invokespecial 80, 3) := by decide +kernel
theorem d_Fi_search_18 : decode k_Fi_search.1 18 = .ok (.athrow, 1) := by decide +kernel
theorem d_Fi_search_19 : decode k_Fi_search.1 19 = .ok (.aload_n 0, 1) := by decide +kernel
theorem d_Fi_search_20 : decode k_Fi_search.1 20 = .ok (.getfield 40, 3) := by decide +kernel
theorem d_Fi_search_23 : decode k_Fi_search.1 23 = .ok (.invokevirtual 156, 3) := by decide +kernel
theorem d_Fi_search_26 : decode k_Fi_search.1 26 = .ok (.aload_n 0, 1) := by decide +kernel
theorem d_Fi_search_27 : decode k_Fi_search.1 27 = .ok (.aload_n 0, 1) := by decide +kernel
theorem d_Fi_search_28 : decode k_Fi_search.1 28 = .ok (.getfield 33, 3) := by decide +kernel
theorem d_Fi_search_31 : decode k_Fi_search.1 31 = .ok (.invokevirtual 159, 3) := by decide +kernel
theorem d_Fi_search_34 : decode k_Fi_search.1 34 = .ok (.putfield 44, 3) := by decide +kernel
theorem d_Fi_search_37 : decode k_Fi_search.1 37 = .ok (.aload_n 0, 1) := by decide +kernel
theorem d_Fi_search_38 : decode k_Fi_search.1 38 = .ok (.getfield 33, 3) := by decide +kernel
theorem d_Fi_search_41 : decode k_Fi_search.1 41 = .ok (.invokevirtual 162, 3) := by decide +kernel
theorem d_Fi_search_44 : decode k_Fi_search.1 44 = .ok (.aload_n 0, 1) := by decide +kernel
theorem d_Fi_search_45 : decode k_Fi_search.1 45 = .ok (.getfield 44, 3) := by decide +kernel
theorem d_Fi_search_48 : decode k_Fi_search.1 48 = .ok (.iconst (-1), 1) := by decide +kernel
theorem d_Fi_search_49 : decode k_Fi_search.1 49 = .ok (.if_icmp .eq 11, 3) := by decide +kernel
theorem d_Fi_search_52 : decode k_Fi_search.1 52 = .ok (.new 55, 3) := by decide +kernel
theorem d_Fi_search_55 : decode k_Fi_search.1 55 = .ok (.dup, 1) := by decide +kernel
theorem d_Fi_search_56 : decode k_Fi_search.1 56 = .ok (.invokespecial 57, 3) := by decide +kernel
theorem d_Fi_search_59 : decode k_Fi_search.1 59 = .ok (.athrow, 1) := by decide +kernel
theorem d_Fi_search_60 : decode k_Fi_search.1 60 = .ok (.iconst 1, 1) := by decide +kernel
theorem d_Fi_search_61 : decode k_Fi_search.1 61 = .ok (.istore_n 2, 1) := by decide +kernel
theorem d_Fi_search_62 : decode k_Fi_search.1 62 = .ok (.iload_n 2, 1) := by decide +kernel
theorem d_Fi_search_63 : decode k_Fi_search.1 63 = .ok (.bipush 16, 2) := by decide +kernel
theorem d_Fi_search_65 : decode k_Fi_search.1 65 = .ok (.if_icmp .ge 34, 3) := by decide +kernel
theorem d_Fi_search_68 : decode k_Fi_search.1 68 = .ok (.aload_n 0, 1) := by decide +kernel
theorem d_Fi_search_69 : decode k_Fi_search.1 69 = .ok (.getfield 26, 3) := by decide +kernel
theorem d_Fi_search_72 : decode k_Fi_search.1 72 = .ok (.iload_n 2, 1) := by decide +kernel
theorem d_Fi_search_73 : decode k_Fi_search.1 73 = .ok (.invokevirtual 165, 3) := by decide +kernel
theorem d_Fi_search_76 : decode k_Fi_search.1 76 = .ok (.ifCond .eq 17, 3) := by decide +kernel
theorem d_Fi_search_79 : decode k_Fi_search.1 79 = .ok (.aload_n 0, 1) := by decide +kernel
theorem d_Fi_search_80 : decode k_Fi_search.1 80 = .ok (.iload_n 2, 1) := by decide +kernel
theorem d_Fi_search_81 : decode k_Fi_search.1 81 = .ok (.iload_n 1, 1) := by decide +kernel
theorem d_Fi_search_82 : decode k_Fi_search.1 82 = .ok (.invokevirtual 168, 3) := by decide +kernel
theorem d_Fi_search_85 : decode k_Fi_search.1 85 = .ok (.ifCond .eq 8, 3) := by decide +kernel
theorem d_Fi_search_88 : decode k_Fi_search.1 88 = .ok (.aload_n 0, 1) := by decide +kernel
theorem d_Fi_search_89 : decode k_Fi_search.1 89 = .ok (.iload_n 2, 1) := by decide +kernel
theorem d_Fi_search_90 : decode k_Fi_search.1 90 = .ok (.invokevirtual 171, 3) := by decide +kernel
theorem d_Fi_search_93 : decode k_Fi_search.1 93 = .ok (.iinc 2 1, 3) := by decide +kernel
theorem d_Fi_search_96 : decode k_Fi_search.1 96 = .ok (.goto (-34), 3) := by decide +kernel
theorem d_Fi_search_99 : decode k_Fi_search.1 99 = .ok (.aload_n 0, 1) := by decide +kernel
theorem d_Fi_search_100 : decode k_Fi_search.1 100 = .ok (.getfield 40, 3) := by decide +kernel
theorem d_Fi_search_103 : decode k_Fi_search.1 103 = .ok (.invokevirtual 174, 3) := by decide +kernel
theorem d_Fi_search_106 : decode k_Fi_search.1 106 = .ok (.ireturn, 1) := by decide +kernel
theorem d_Fi_isSearched_0 : decode k_Fi_isSearched.1 0 = .ok (.iload_n 2, 1) := by decide +kernel
theorem d_Fi_isSearched_1 : decode k_Fi_isSearched.1 1 = .ok (.ifCond .eq 15, 3) := by decide +kernel
theorem d_Fi_isSearched_4 : decode k_Fi_isSearched.1 4 = .ok (.aload_n 0, 1) := by decide +kernel
theorem d_Fi_isSearched_5 : decode k_Fi_isSearched.1 5 = .ok (.getfield 10, 3) := by decide +kernel
theorem d_Fi_isSearched_8 : decode k_Fi_isSearched.1 8 = .ok (.iload_n 1, 1) := by decide +kernel
theorem d_Fi_isSearched_9 : decode k_Fi_isSearched.1 9 = .ok (.iload_n 2, 1) := by decide +kernel
theorem d_Fi_isSearched_10 : decode k_Fi_isSearched.1 10 = .ok (.invokevirtual 99, 3) := by decide +kernel
theorem d_Fi_isSearched_13 : decode k_Fi_isSearched.1 13 = .ok (.ifCond .eq 7, 3) := by decide +kernel
theorem d_Fi_isSearched_16 : decode k_Fi_isSearched.1 16 = .ok (.iconst 1, 1) := by decide +kernel
theorem d_Fi_isSearched_17 : decode k_Fi_isSearched.1 17 = .ok (.goto 4, 3) := by decide +kernel
theorem d_Fi_isSearched_20 : decode k_Fi_isSearched.1 20 = .ok (.iconst 0, 1) := by decide +kernel
theorem d_Fi_isSearched_21 : decode k_Fi_isSearched.1 21 = .ok (.ireturn, 1) := by decide +kernel
theorem d_Fi_rank_0 : decode k_Fi_rank.1 0 = .ok (.aload_n 0, 1) := by decide +kernel
theorem d_Fi_rank_1 : decode k_Fi_rank.1 1 = .ok (.getfield 33, 3) := by decide +kernel
theorem d_Fi_rank_4 : decode k_Fi_rank.1 4 = .ok (.aload_n 0, 1) := by decide +kernel
theorem d_Fi_rank_5 : decode k_Fi_rank.1 5 = .ok (.getfield 26, 3) := by decide +kernel
theorem d_Fi_rank_8 : decode k_Fi_rank.1 8 = .ok (.iload_n 1, 1) := by decide +kernel
theorem d_Fi_rank_9 : decode k_Fi_rank.1 9 = .ok (.invokevirtual 179, 3) := by decide +kernel
theorem d_Fi_rank_12 : decode k_Fi_rank.1 12 = .ok (.invokevirtual 205, 3) := by decide +kernel
theorem d_Fi_rank_15 : decode k_Fi_rank.1 15 = .ok (.istore_n 2, 1) := by decide +kernel
theorem d_Fi_rank_16 : decode k_Fi_rank.1 16 = .ok (.iload_n 2, 1) := by decide +kernel
theorem d_Fi_rank_17 : decode k_Fi_rank.1 17 = .ok (.iconst (-1), 1) := by decide +kernel
theorem d_Fi_rank_18 : decode k_Fi_rank.1 18 = .ok (.if_icmp .eq 12, 3) := by decide +kernel
theorem d_Fi_rank_21 : decode k_Fi_rank.1 21 = .ok (.aload_n 0, 1) := by decide +kernel
theorem d_Fi_rank_22 : decode k_Fi_rank.1 22 = .ok (.getfield 40, 3) := by decide +kernel
theorem d_Fi_rank_25 : decode k_Fi_rank.1 25 = .ok (.iload_n 1, 1) := by decide +kernel
theorem d_Fi_rank_26 : decode k_Fi_rank.1 26 = .ok (.iload_n 2, 1) := by decide +kernel
theorem d_Fi_rank_27 : decode k_Fi_rank.1 27 = .ok (.invokevirtual 209, 3) := by decide +kernel
theorem d_Fi_rank_30 : decode k_Fi_rank.1 30 = .ok (.return_, 1) := by decide +kernel
theorem d_Fi_result_0 : decode k_Fi_result.1 0 = .ok (.iload_n 1, 1) := by decide +kernel
theorem d_Fi_result_1 : decode k_Fi_result.1 1 = .ok (.ifCond .lt 14, 3) := by decide +kernel
theorem d_Fi_result_4 : decode k_Fi_result.1 4 = .ok (.iload_n 1, 1) := by decide +kernel
theorem d_Fi_result_5 : decode k_Fi_result.1 5 = .ok (.aload_n 0, 1) := by decide +kernel
theorem d_Fi_result_6 : decode k_Fi_result.1 6 = .ok (.getfield 40, 3) := by decide +kernel
theorem d_Fi_result_9 : decode k_Fi_result.1 9 = .ok (.invokevirtual 174, 3) := by decide +kernel
theorem d_Fi_result_12 : decode k_Fi_result.1 12 = .ok (.if_icmp .lt 11, 3) := by decide +kernel
theorem d_Fi_result_15 : decode k_Fi_result.1 15 = .ok (.new 78, 3) := by decide +kernel
theorem d_Fi_result_18 : decode k_Fi_result.1 18 = .ok (.dup, 1) := by decide +kernel
theorem d_Fi_result_19 : decode k_Fi_result.1 19 = .ok (.invokespecial 80, 3) := by decide +kernel
theorem d_Fi_result_22 : decode k_Fi_result.1 22 = .ok (.athrow, 1) := by decide +kernel
theorem d_Fi_result_23 : decode k_Fi_result.1 23 = .ok (.iload_n 2, 1) := by decide +kernel
theorem d_Fi_result_24 : decode k_Fi_result.1 24 = .ok (.ifCond .eq 16, 3) := by decide +kernel
theorem d_Fi_result_27 : decode k_Fi_result.1 27 = .ok (.iload_n 2, 1) := by decide +kernel
theorem d_Fi_result_28 : decode k_Fi_result.1 28 = .ok (.iconst 1, 1) := by decide +kernel
theorem d_Fi_result_29 : decode k_Fi_result.1 29 = .ok (.if_icmp .eq 11, 3) := by decide +kernel
theorem d_Fi_result_32 : decode k_Fi_result.1 32 = .ok (.new 55, 3) := by decide +kernel
theorem d_Fi_result_35 : decode k_Fi_result.1 35 = .ok (.dup, 1) := by decide +kernel
theorem d_Fi_result_36 : decode k_Fi_result.1 36 = .ok (.invokespecial 57, 3) := by decide +kernel
theorem d_Fi_result_39 : decode k_Fi_result.1 39 = .ok (.athrow, 1) := by decide +kernel
theorem d_Fi_result_40 : decode k_Fi_result.1 40 = .ok (.iload_n 2, 1) := by decide +kernel
theorem d_Fi_result_41 : decode k_Fi_result.1 41 = .ok (.ifCond .ne 14, 3) := by decide +kernel
theorem d_Fi_result_44 : decode k_Fi_result.1 44 = .ok (.aload_n 0, 1) := by decide +kernel
theorem d_Fi_result_45 : decode k_Fi_result.1 45 = .ok (.getfield 40, 3) := by decide +kernel
theorem d_Fi_result_48 : decode k_Fi_result.1 48 = .ok (.iload_n 1, 1) := by decide +kernel
theorem d_Fi_result_49 : decode k_Fi_result.1 49 = .ok (.invokevirtual 175, 3) := by decide +kernel
theorem d_Fi_result_52 : decode k_Fi_result.1 52 = .ok (.goto 11, 3) := by decide +kernel
theorem d_Fi_result_55 : decode k_Fi_result.1 55 = .ok (.aload_n 0, 1) := by decide +kernel
theorem d_Fi_result_56 : decode k_Fi_result.1 56 = .ok (.getfield 40, 3) := by decide +kernel
theorem d_Fi_result_59 : decode k_Fi_result.1 59 = .ok (.iload_n 1, 1) := by decide +kernel
theorem d_Fi_result_60 : decode k_Fi_result.1 60 = .ok (.invokevirtual 176, 3) := by decide +kernel
theorem d_Fi_result_63 : decode k_Fi_result.1 63 = .ok (.ireturn, 1) := by decide +kernel
theorem d_Fi_words_0 : decode k_Fi_words.1 0 = .ok (.aload_n 0, 1) := by decide +kernel
theorem d_Fi_words_1 : decode k_Fi_words.1 1 = .ok (.getfield 26, 3) := by decide +kernel
theorem d_Fi_words_4 : decode k_Fi_words.1 4 = .ok (.iload_n 1, 1) := by decide +kernel
theorem d_Fi_words_5 : decode k_Fi_words.1 5 = .ok (.invokevirtual 165, 3) := by decide +kernel
theorem d_Fi_words_8 : decode k_Fi_words.1 8 = .ok (.ifCond .ne 11, 3) := by decide +kernel
theorem d_Fi_words_11 : decode k_Fi_words.1 11 = .ok (.new 78, 3) := by decide +kernel
theorem d_Fi_words_14 : decode k_Fi_words.1 14 = .ok (.dup, 1) := by decide +kernel
theorem d_Fi_words_15 : decode k_Fi_words.1 15 = .ok (.invokespecial 80, 3) := by decide +kernel
theorem d_Fi_words_18 : decode k_Fi_words.1 18 = .ok (.athrow, 1) := by decide +kernel
theorem d_Fi_words_19 : decode k_Fi_words.1 19 = .ok (.aload_n 0, 1) := by decide +kernel
theorem d_Fi_words_20 : decode k_Fi_words.1 20 = .ok (.getfield 26, 3) := by decide +kernel
theorem d_Fi_words_23 : decode k_Fi_words.1 23 = .ok (.iload_n 1, 1) := by decide +kernel
theorem d_Fi_words_24 : decode k_Fi_words.1 24 = .ok (.invokevirtual 179, 3) := by decide +kernel
theorem d_Fi_words_27 : decode k_Fi_words.1 27 = .ok (.invokevirtual 183, 3) := by decide +kernel
theorem d_Fi_words_30 : decode k_Fi_words.1 30 = .ok (.ireturn, 1) := by decide +kernel
theorem d_Fi_event_0 : decode k_Fi_event.1 0 = .ok (.iload_n 1, 1) := by decide +kernel
theorem d_Fi_event_1 : decode k_Fi_event.1 1 = .ok (.ifCond .lt 14, 3) := by decide +kernel
theorem d_Fi_event_4 : decode k_Fi_event.1 4 = .ok (.iload_n 1, 1) := by decide +kernel
theorem d_Fi_event_5 : decode k_Fi_event.1 5 = .ok (.aload_n 0, 1) := by decide +kernel
theorem d_Fi_event_6 : decode k_Fi_event.1 6 = .ok (.getfield 19, 3) := by decide +kernel
theorem d_Fi_event_9 : decode k_Fi_event.1 9 = .ok (.invokevirtual 117, 3) := by decide +kernel
theorem d_Fi_event_12 : decode k_Fi_event.1 12 = .ok (.if_icmp .lt 11, 3) := by decide +kernel
theorem d_Fi_event_15 : decode k_Fi_event.1 15 = .ok (.new 78, 3) := by decide +kernel
theorem d_Fi_event_18 : decode k_Fi_event.1 18 = .ok (.dup, 1) := by decide +kernel
theorem d_Fi_event_19 : decode k_Fi_event.1 19 = .ok (.invokespecial 80, 3) := by decide +kernel
theorem d_Fi_event_22 : decode k_Fi_event.1 22 = .ok (.athrow, 1) := by decide +kernel
theorem d_Fi_event_23 : decode k_Fi_event.1 23 = .ok (.bipush 16, 2) := by decide +kernel
theorem d_Fi_event_25 : decode k_Fi_event.1 25 = .ok (.aload_n 0, 1) := by decide +kernel
theorem d_Fi_event_26 : decode k_Fi_event.1 26 = .ok (.getfield 19, 3) := by decide +kernel
theorem d_Fi_event_29 : decode k_Fi_event.1 29 = .ok (.iload_n 1, 1) := by decide +kernel
theorem d_Fi_event_30 : decode k_Fi_event.1 30 = .ok (.invokevirtual 127, 3) := by decide +kernel
theorem d_Fi_event_33 : decode k_Fi_event.1 33 = .ok (.imul, 1) := by decide +kernel
theorem d_Fi_event_34 : decode k_Fi_event.1 34 = .ok (.aload_n 0, 1) := by decide +kernel
theorem d_Fi_event_35 : decode k_Fi_event.1 35 = .ok (.getfield 19, 3) := by decide +kernel
theorem d_Fi_event_38 : decode k_Fi_event.1 38 = .ok (.iload_n 1, 1) := by decide +kernel
theorem d_Fi_event_39 : decode k_Fi_event.1 39 = .ok (.invokevirtual 130, 3) := by decide +kernel
theorem d_Fi_event_42 : decode k_Fi_event.1 42 = .ok (.iadd, 1) := by decide +kernel
theorem d_Fi_event_43 : decode k_Fi_event.1 43 = .ok (.ireturn, 1) := by decide +kernel
theorem d_Fi_count_0 : decode k_Fi_count.1 0 = .ok (.iload_n 1, 1) := by decide +kernel
theorem d_Fi_count_1 : decode k_Fi_count.1 1 = .ok (.tableswitch 107 0 6 #[43, 51, 59, 67, 75, 91, 99], 43) := by decide +kernel
theorem d_Fi_count_44 : decode k_Fi_count.1 44 = .ok (.aload_n 0, 1) := by decide +kernel
theorem d_Fi_count_45 : decode k_Fi_count.1 45 = .ok (.getfield 10, 3) := by decide +kernel
theorem d_Fi_count_48 : decode k_Fi_count.1 48 = .ok (.invokevirtual 186, 3) := by decide +kernel
theorem d_Fi_count_51 : decode k_Fi_count.1 51 = .ok (.ireturn, 1) := by decide +kernel
theorem d_Fi_count_52 : decode k_Fi_count.1 52 = .ok (.aload_n 0, 1) := by decide +kernel
theorem d_Fi_count_53 : decode k_Fi_count.1 53 = .ok (.getfield 10, 3) := by decide +kernel
theorem d_Fi_count_56 : decode k_Fi_count.1 56 = .ok (.invokevirtual 189, 3) := by decide +kernel
theorem d_Fi_count_59 : decode k_Fi_count.1 59 = .ok (.ireturn, 1) := by decide +kernel
theorem d_Fi_count_60 : decode k_Fi_count.1 60 = .ok (.aload_n 0, 1) := by decide +kernel
theorem d_Fi_count_61 : decode k_Fi_count.1 61 = .ok (.getfield 26, 3) := by decide +kernel
theorem d_Fi_count_64 : decode k_Fi_count.1 64 = .ok (.invokevirtual 192, 3) := by decide +kernel
theorem d_Fi_count_67 : decode k_Fi_count.1 67 = .ok (.ireturn, 1) := by decide +kernel
theorem d_Fi_count_68 : decode k_Fi_count.1 68 = .ok (.aload_n 0, 1) := by decide +kernel
theorem d_Fi_count_69 : decode k_Fi_count.1 69 = .ok (.getfield 19, 3) := by decide +kernel
theorem d_Fi_count_72 : decode k_Fi_count.1 72 = .ok (.invokevirtual 117, 3) := by decide +kernel
theorem d_Fi_count_75 : decode k_Fi_count.1 75 = .ok (.ireturn, 1) := by decide +kernel
theorem d_Fi_count_76 : decode k_Fi_count.1 76 = .ok (.aload_n 0, 1) := by decide +kernel
theorem d_Fi_count_77 : decode k_Fi_count.1 77 = .ok (.getfield 19, 3) := by decide +kernel
theorem d_Fi_count_80 : decode k_Fi_count.1 80 = .ok (.invokevirtual 113, 3) := by decide +kernel
theorem d_Fi_count_83 : decode k_Fi_count.1 83 = .ok (.ifCond .eq 7, 3) := by decide +kernel
theorem d_Fi_count_86 : decode k_Fi_count.1 86 = .ok (.iconst 1, 1) := by decide +kernel
theorem d_Fi_count_87 : decode k_Fi_count.1 87 = .ok (.goto 4, 3) := by decide +kernel
theorem d_Fi_count_90 : decode k_Fi_count.1 90 = .ok (.iconst 0, 1) := by decide +kernel
theorem d_Fi_count_91 : decode k_Fi_count.1 91 = .ok (.ireturn, 1) := by decide +kernel
theorem d_Fi_count_92 : decode k_Fi_count.1 92 = .ok (.aload_n 0, 1) := by decide +kernel
theorem d_Fi_count_93 : decode k_Fi_count.1 93 = .ok (.getfield 33, 3) := by decide +kernel
theorem d_Fi_count_96 : decode k_Fi_count.1 96 = .ok (.invokevirtual 151, 3) := by decide +kernel
theorem d_Fi_count_99 : decode k_Fi_count.1 99 = .ok (.ireturn, 1) := by decide +kernel
theorem d_Fi_count_100 : decode k_Fi_count.1 100 = .ok (.aload_n 0, 1) := by decide +kernel
theorem d_Fi_count_101 : decode k_Fi_count.1 101 = .ok (.getfield 26, 3) := by decide +kernel
theorem d_Fi_count_104 : decode k_Fi_count.1 104 = .ok (.invokevirtual 193, 3) := by decide +kernel
theorem d_Fi_count_107 : decode k_Fi_count.1 107 = .ok (.ireturn, 1) := by decide +kernel
theorem d_Fi_count_108 : decode k_Fi_count.1 108 = .ok (.new 55, 3) := by decide +kernel
theorem d_Fi_count_111 : decode k_Fi_count.1 111 = .ok (.dup, 1) := by decide +kernel
theorem d_Fi_count_112 : decode k_Fi_count.1 112 = .ok (.invokespecial 57, 3) := by decide +kernel
theorem d_Fi_count_115 : decode k_Fi_count.1 115 = .ok (.athrow, 1) := by decide +kernel
end
section
theorem d_Ix_init_0 : decode k_Ix_init.1 0 = .ok (.aload_n 0, 1) := by decide +kernel
theorem d_Ix_init_1 : decode k_Ix_init.1 1 = .ok (.invokespecial 3, 3) := by decide +kernel
theorem d_Ix_init_4 : decode k_Ix_init.1 4 = .ok (.aload_n 0, 1) := by decide +kernel
theorem d_Ix_init_5 : decode k_Ix_init.1 5 = .ok (.bipush 16, 2) := by decide +kernel
theorem d_Ix_init_7 : decode k_Ix_init.1 7 = .ok (.anewarray 9, 3) := by decide +kernel
theorem d_Ix_init_10 : decode k_Ix_init.1 10 = .ok (.putfield 11, 3) := by decide +kernel
theorem d_Ix_init_13 : decode k_Ix_init.1 13 = .ok (.aload_n 0, 1) := by decide +kernel
theorem d_Ix_init_14 : decode k_Ix_init.1 14 = .ok (.bipush 16, 2) := by decide +kernel
theorem d_Ix_init_16 : decode k_Ix_init.1 16 = .ok (.newarray .boolean, 2) := by decide +kernel
theorem d_Ix_init_18 : decode k_Ix_init.1 18 = .ok (.putfield 17, 3) := by decide +kernel
theorem d_Ix_init_21 : decode k_Ix_init.1 21 = .ok (.iconst 0, 1) := by decide +kernel
theorem d_Ix_init_22 : decode k_Ix_init.1 22 = .ok (.istore_n 1, 1) := by decide +kernel
theorem d_Ix_init_23 : decode k_Ix_init.1 23 = .ok (.iload_n 1, 1) := by decide +kernel
theorem d_Ix_init_24 : decode k_Ix_init.1 24 = .ok (.bipush 16, 2) := by decide +kernel
theorem d_Ix_init_26 : decode k_Ix_init.1 26 = .ok (.if_icmp .ge 22, 3) := by decide +kernel
theorem d_Ix_init_29 : decode k_Ix_init.1 29 = .ok (.aload_n 0, 1) := by decide +kernel
theorem d_Ix_init_30 : decode k_Ix_init.1 30 = .ok (.getfield 11, 3) := by decide +kernel
theorem d_Ix_init_33 : decode k_Ix_init.1 33 = .ok (.iload_n 1, 1) := by decide +kernel
theorem d_Ix_init_34 : decode k_Ix_init.1 34 = .ok (.new 9, 3) := by decide +kernel
theorem d_Ix_init_37 : decode k_Ix_init.1 37 = .ok (.dup, 1) := by decide +kernel
theorem d_Ix_init_38 : decode k_Ix_init.1 38 = .ok (.invokespecial 21, 3) := by decide +kernel
theorem d_Ix_init_41 : decode k_Ix_init.1 41 = .ok (.aastore, 1) := by decide +kernel
theorem d_Ix_init_42 : decode k_Ix_init.1 42 = .ok (.iinc 1 1, 3) := by decide +kernel
theorem d_Ix_init_45 : decode k_Ix_init.1 45 = .ok (.goto (-22), 3) := by decide +kernel
theorem d_Ix_init_48 : decode k_Ix_init.1 48 = .ok (.return_, 1) := by decide +kernel
theorem d_Ix_read_0 : decode k_Ix_read.1 0 = .ok (.aload_n 0, 1) := by decide +kernel
theorem d_Ix_read_1 : decode k_Ix_read.1 1 = .ok (.getfield 11, 3) := by decide +kernel
theorem d_Ix_read_4 : decode k_Ix_read.1 4 = .ok (.iload_n 1, 1) := by decide +kernel
theorem d_Ix_read_5 : decode k_Ix_read.1 5 = .ok (.aaload, 1) := by decide +kernel
theorem d_Ix_read_6 : decode k_Ix_read.1 6 = .ok (.aload_n 2, 1) := by decide +kernel
theorem d_Ix_read_7 : decode k_Ix_read.1 7 = .ok (.iload_n 3, 1) := by decide +kernel
theorem d_Ix_read_8 : decode k_Ix_read.1 8 = .ok (.invokevirtual 26, 3) := by decide +kernel
theorem d_Ix_read_11 : decode k_Ix_read.1 11 = .ok (.aload_n 0, 1) := by decide +kernel
theorem d_Ix_read_12 : decode k_Ix_read.1 12 = .ok (.getfield 17, 3) := by decide +kernel
theorem d_Ix_read_15 : decode k_Ix_read.1 15 = .ok (.iload_n 1, 1) := by decide +kernel
theorem d_Ix_read_16 : decode k_Ix_read.1 16 = .ok (.iconst 1, 1) := by decide +kernel
theorem d_Ix_read_17 : decode k_Ix_read.1 17 = .ok (.bastore, 1) := by decide +kernel
theorem d_Ix_read_18 : decode k_Ix_read.1 18 = .ok (.aload_n 0, 1) := by decide +kernel
theorem d_Ix_read_19 : decode k_Ix_read.1 19 = .ok (.dup, 1) := by decide +kernel
theorem d_Ix_read_20 : decode k_Ix_read.1 20 = .ok (.getfield 30, 3) := by decide +kernel
theorem d_Ix_read_23 : decode k_Ix_read.1 23 = .ok (.iconst 1, 1) := by decide +kernel
theorem d_Ix_read_24 : decode k_Ix_read.1 24 = .ok (.iadd, 1) := by decide +kernel
theorem d_Ix_read_25 : decode k_Ix_read.1 25 = .ok (.putfield 30, 3) := by decide +kernel
theorem d_Ix_read_28 : decode k_Ix_read.1 28 = .ok (.return_, 1) := by decide +kernel
theorem d_Ix_forget_0 : decode k_Ix_forget.1 0 = .ok (.aload_n 0, 1) := by decide +kernel
theorem d_Ix_forget_1 : decode k_Ix_forget.1 1 = .ok (.getfield 17, 3) := by decide +kernel
theorem d_Ix_forget_4 : decode k_Ix_forget.1 4 = .ok (.iload_n 1, 1) := by decide +kernel
theorem d_Ix_forget_5 : decode k_Ix_forget.1 5 = .ok (.iconst 0, 1) := by decide +kernel
theorem d_Ix_forget_6 : decode k_Ix_forget.1 6 = .ok (.bastore, 1) := by decide +kernel
theorem d_Ix_forget_7 : decode k_Ix_forget.1 7 = .ok (.return_, 1) := by decide +kernel
theorem d_Ix_has_0 : decode k_Ix_has.1 0 = .ok (.iload_n 1, 1) := by decide +kernel
theorem d_Ix_has_1 : decode k_Ix_has.1 1 = .ok (.invokestatic 22, 3) := by decide +kernel
theorem d_Ix_has_4 : decode k_Ix_has.1 4 = .ok (.ifCond .eq 16, 3) := by decide +kernel
theorem d_Ix_has_7 : decode k_Ix_has.1 7 = .ok (.aload_n 0, 1) := by decide +kernel
theorem d_Ix_has_8 : decode k_Ix_has.1 8 = .ok (.getfield 17, 3) := by decide +kernel
theorem d_Ix_has_11 : decode k_Ix_has.1 11 = .ok (.iload_n 1, 1) := by decide +kernel
theorem d_Ix_has_12 : decode k_Ix_has.1 12 = .ok (.baload, 1) := by decide +kernel
theorem d_Ix_has_13 : decode k_Ix_has.1 13 = .ok (.ifCond .eq 7, 3) := by decide +kernel
theorem d_Ix_has_16 : decode k_Ix_has.1 16 = .ok (.iconst 1, 1) := by decide +kernel
theorem d_Ix_has_17 : decode k_Ix_has.1 17 = .ok (.goto 4, 3) := by decide +kernel
theorem d_Ix_has_20 : decode k_Ix_has.1 20 = .ok (.iconst 0, 1) := by decide +kernel
theorem d_Ix_has_21 : decode k_Ix_has.1 21 = .ok (.ireturn, 1) := by decide +kernel
theorem d_Ix_entryOf_0 : decode k_Ix_entryOf.1 0 = .ok (.aload_n 0, 1) := by decide +kernel
theorem d_Ix_entryOf_1 : decode k_Ix_entryOf.1 1 = .ok (.getfield 11, 3) := by decide +kernel
theorem d_Ix_entryOf_4 : decode k_Ix_entryOf.1 4 = .ok (.iload_n 1, 1) := by decide +kernel
theorem d_Ix_entryOf_5 : decode k_Ix_entryOf.1 5 = .ok (.aaload, 1) := by decide +kernel
theorem d_Ix_entryOf_6 : decode k_Ix_entryOf.1 6 = .ok (.areturn, 1) := by decide +kernel
theorem d_Ix_size_0 : decode k_Ix_size.1 0 = .ok (.iconst 0, 1) := by decide +kernel
theorem d_Ix_size_1 : decode k_Ix_size.1 1 = .ok (.istore_n 1, 1) := by decide +kernel
theorem d_Ix_size_2 : decode k_Ix_size.1 2 = .ok (.iconst 0, 1) := by decide +kernel
theorem d_Ix_size_3 : decode k_Ix_size.1 3 = .ok (.istore_n 2, 1) := by decide +kernel
theorem d_Ix_size_4 : decode k_Ix_size.1 4 = .ok (.iload_n 2, 1) := by decide +kernel
theorem d_Ix_size_5 : decode k_Ix_size.1 5 = .ok (.bipush 16, 2) := by decide +kernel
theorem d_Ix_size_7 : decode k_Ix_size.1 7 = .ok (.if_icmp .ge 26, 3) := by decide +kernel
theorem d_Ix_size_10 : decode k_Ix_size.1 10 = .ok (.iload_n 1, 1) := by decide +kernel
theorem d_Ix_size_11 : decode k_Ix_size.1 11 = .ok (.aload_n 0, 1) := by decide +kernel
theorem d_Ix_size_12 : decode k_Ix_size.1 12 = .ok (.getfield 17, 3) := by decide +kernel
theorem d_Ix_size_15 : decode k_Ix_size.1 15 = .ok (.iload_n 2, 1) := by decide +kernel
theorem d_Ix_size_16 : decode k_Ix_size.1 16 = .ok (.baload, 1) := by decide +kernel
theorem d_Ix_size_17 : decode k_Ix_size.1 17 = .ok (.ifCond .eq 7, 3) := by decide +kernel
theorem d_Ix_size_20 : decode k_Ix_size.1 20 = .ok (.iconst 1, 1) := by decide +kernel
theorem d_Ix_size_21 : decode k_Ix_size.1 21 = .ok (.goto 4, 3) := by decide +kernel
theorem d_Ix_size_24 : decode k_Ix_size.1 24 = .ok (.iconst 0, 1) := by decide +kernel
theorem d_Ix_size_25 : decode k_Ix_size.1 25 = .ok (.iadd, 1) := by decide +kernel
theorem d_Ix_size_26 : decode k_Ix_size.1 26 = .ok (.istore_n 1, 1) := by decide +kernel
theorem d_Ix_size_27 : decode k_Ix_size.1 27 = .ok (.iinc 2 1, 3) := by decide +kernel
theorem d_Ix_size_30 : decode k_Ix_size.1 30 = .ok (.goto (-26), 3) := by decide +kernel
theorem d_Ix_size_33 : decode k_Ix_size.1 33 = .ok (.iload_n 1, 1) := by decide +kernel
theorem d_Ix_size_34 : decode k_Ix_size.1 34 = .ok (.ireturn, 1) := by decide +kernel
theorem d_Ix_timesRead_0 : decode k_Ix_timesRead.1 0 = .ok (.aload_n 0, 1) := by decide +kernel
theorem d_Ix_timesRead_1 : decode k_Ix_timesRead.1 1 = .ok (.getfield 30, 3) := by decide +kernel
theorem d_Ix_timesRead_4 : decode k_Ix_timesRead.1 4 = .ok (.ireturn, 1) := by decide +kernel
end
section
theorem d_Lw_make_0 : decode k_Lw_make.1 0 = .ok (.aload 4, 2) := by decide +kernel
theorem d_Lw_make_2 : decode k_Lw_make.1 2 = .ok (.iconst 0, 1) := by decide +kernel
theorem d_Lw_make_3 : decode k_Lw_make.1 3 = .ok (.aload_n 0, 1) := by decide +kernel
theorem d_Lw_make_4 : decode k_Lw_make.1 4 = .ok (.iload_n 1, 1) := by decide +kernel
theorem d_Lw_make_5 : decode k_Lw_make.1 5 = .ok (.iload_n 2, 1) := by decide +kernel
theorem d_Lw_make_6 : decode k_Lw_make.1 6 = .ok (.iload_n 3, 1) := by decide +kernel
theorem d_Lw_make_7 : decode k_Lw_make.1 7 = .ok (.invokevirtual 7, 3) := by decide +kernel
theorem d_Lw_make_10 : decode k_Lw_make.1 10 = .ok (.i2l, 1) := by decide +kernel
theorem d_Lw_make_11 : decode k_Lw_make.1 11 = .ok (.lastore, 1) := by decide +kernel
theorem d_Lw_make_12 : decode k_Lw_make.1 12 = .ok (.goto 11, 3) := by decide +kernel
theorem d_Lw_make_15 : decode k_Lw_make.1 15 = .ok (.astore 5, 2) := by decide +kernel
theorem d_Lw_make_17 : decode k_Lw_make.1 17 = .ok (.iconst 1, 1) := by decide +kernel
theorem d_Lw_make_18 : decode k_Lw_make.1 18 = .ok (.ireturn, 1) := by decide +kernel
theorem d_Lw_make_19 : decode k_Lw_make.1 19 = .ok (.astore 5, 2) := by decide +kernel
theorem d_Lw_make_21 : decode k_Lw_make.1 21 = .ok (.iconst 2, 1) := by decide +kernel
theorem d_Lw_make_22 : decode k_Lw_make.1 22 = .ok (.ireturn, 1) := by decide +kernel
theorem d_Lw_make_23 : decode k_Lw_make.1 23 = .ok (.iconst 0, 1) := by decide +kernel
theorem d_Lw_make_24 : decode k_Lw_make.1 24 = .ok (.ireturn, 1) := by decide +kernel
theorem d_Lw_write_0 : decode k_Lw_write.1 0 = .ok (.aload 5, 2) := by decide +kernel
theorem d_Lw_write_2 : decode k_Lw_write.1 2 = .ok (.iconst 0, 1) := by decide +kernel
theorem d_Lw_write_3 : decode k_Lw_write.1 3 = .ok (.aload_n 0, 1) := by decide +kernel
theorem d_Lw_write_4 : decode k_Lw_write.1 4 = .ok (.iload_n 1, 1) := by decide +kernel
theorem d_Lw_write_5 : decode k_Lw_write.1 5 = .ok (.lload_n 2, 1) := by decide +kernel
theorem d_Lw_write_6 : decode k_Lw_write.1 6 = .ok (.iload 4, 2) := by decide +kernel
theorem d_Lw_write_8 : decode k_Lw_write.1 8 = .ok (.invokevirtual 17, 3) := by decide +kernel
theorem d_Lw_write_11 : decode k_Lw_write.1 11 = .ok (.i2l, 1) := by decide +kernel
theorem d_Lw_write_12 : decode k_Lw_write.1 12 = .ok (.lastore, 1) := by decide +kernel
theorem d_Lw_write_13 : decode k_Lw_write.1 13 = .ok (.goto 15, 3) := by decide +kernel
theorem d_Lw_write_16 : decode k_Lw_write.1 16 = .ok (.astore 6, 2) := by decide +kernel
theorem d_Lw_write_18 : decode k_Lw_write.1 18 = .ok (.iconst 1, 1) := by decide +kernel
theorem d_Lw_write_19 : decode k_Lw_write.1 19 = .ok (.ireturn, 1) := by decide +kernel
theorem d_Lw_write_20 : decode k_Lw_write.1 20 = .ok (.astore 6, 2) := by decide +kernel
theorem d_Lw_write_22 : decode k_Lw_write.1 22 = .ok (.iconst 2, 1) := by decide +kernel
theorem d_Lw_write_23 : decode k_Lw_write.1 23 = .ok (.ireturn, 1) := by decide +kernel
theorem d_Lw_write_24 : decode k_Lw_write.1 24 = .ok (.astore 6, 2) := by decide +kernel
theorem d_Lw_write_26 : decode k_Lw_write.1 26 = .ok (.iconst 3, 1) := by decide +kernel
theorem d_Lw_write_27 : decode k_Lw_write.1 27 = .ok (.ireturn, 1) := by decide +kernel
theorem d_Lw_write_28 : decode k_Lw_write.1 28 = .ok (.iconst 0, 1) := by decide +kernel
theorem d_Lw_write_29 : decode k_Lw_write.1 29 = .ok (.ireturn, 1) := by decide +kernel
theorem d_Lw_cut_0 : decode k_Lw_cut.1 0 = .ok (.aload_n 3, 1) := by decide +kernel
theorem d_Lw_cut_1 : decode k_Lw_cut.1 1 = .ok (.iconst 0, 1) := by decide +kernel
theorem d_Lw_cut_2 : decode k_Lw_cut.1 2 = .ok (.aload_n 0, 1) := by decide +kernel
theorem d_Lw_cut_3 : decode k_Lw_cut.1 3 = .ok (.iload_n 1, 1) := by decide +kernel
theorem d_Lw_cut_4 : decode k_Lw_cut.1 4 = .ok (.iload_n 2, 1) := by decide +kernel
theorem d_Lw_cut_5 : decode k_Lw_cut.1 5 = .ok (.invokevirtual 23, 3) := by decide +kernel
theorem d_Lw_cut_8 : decode k_Lw_cut.1 8 = .ok (.i2l, 1) := by decide +kernel
theorem d_Lw_cut_9 : decode k_Lw_cut.1 9 = .ok (.lastore, 1) := by decide +kernel
theorem d_Lw_cut_10 : decode k_Lw_cut.1 10 = .ok (.goto 11, 3) := by decide +kernel
theorem d_Lw_cut_13 : decode k_Lw_cut.1 13 = .ok (.astore 4, 2) := by decide +kernel
theorem d_Lw_cut_15 : decode k_Lw_cut.1 15 = .ok (.iconst 1, 1) := by decide +kernel
theorem d_Lw_cut_16 : decode k_Lw_cut.1 16 = .ok (.ireturn, 1) := by decide +kernel
theorem d_Lw_cut_17 : decode k_Lw_cut.1 17 = .ok (.astore 4, 2) := by decide +kernel
theorem d_Lw_cut_19 : decode k_Lw_cut.1 19 = .ok (.iconst 2, 1) := by decide +kernel
theorem d_Lw_cut_20 : decode k_Lw_cut.1 20 = .ok (.ireturn, 1) := by decide +kernel
theorem d_Lw_cut_21 : decode k_Lw_cut.1 21 = .ok (.iconst 0, 1) := by decide +kernel
theorem d_Lw_cut_22 : decode k_Lw_cut.1 22 = .ok (.ireturn, 1) := by decide +kernel
theorem d_Lw_remove_0 : decode k_Lw_remove.1 0 = .ok (.aload_n 2, 1) := by decide +kernel
theorem d_Lw_remove_1 : decode k_Lw_remove.1 1 = .ok (.iconst 0, 1) := by decide +kernel
theorem d_Lw_remove_2 : decode k_Lw_remove.1 2 = .ok (.aload_n 0, 1) := by decide +kernel
theorem d_Lw_remove_3 : decode k_Lw_remove.1 3 = .ok (.iload_n 1, 1) := by decide +kernel
theorem d_Lw_remove_4 : decode k_Lw_remove.1 4 = .ok (.invokevirtual 27, 3) := by decide +kernel
theorem d_Lw_remove_7 : decode k_Lw_remove.1 7 = .ok (.i2l, 1) := by decide +kernel
theorem d_Lw_remove_8 : decode k_Lw_remove.1 8 = .ok (.lastore, 1) := by decide +kernel
theorem d_Lw_remove_9 : decode k_Lw_remove.1 9 = .ok (.goto 9, 3) := by decide +kernel
theorem d_Lw_remove_12 : decode k_Lw_remove.1 12 = .ok (.astore_n 3, 1) := by decide +kernel
theorem d_Lw_remove_13 : decode k_Lw_remove.1 13 = .ok (.iconst 1, 1) := by decide +kernel
theorem d_Lw_remove_14 : decode k_Lw_remove.1 14 = .ok (.ireturn, 1) := by decide +kernel
theorem d_Lw_remove_15 : decode k_Lw_remove.1 15 = .ok (.astore_n 3, 1) := by decide +kernel
theorem d_Lw_remove_16 : decode k_Lw_remove.1 16 = .ok (.iconst 2, 1) := by decide +kernel
theorem d_Lw_remove_17 : decode k_Lw_remove.1 17 = .ok (.ireturn, 1) := by decide +kernel
theorem d_Lw_remove_18 : decode k_Lw_remove.1 18 = .ok (.iconst 0, 1) := by decide +kernel
theorem d_Lw_remove_19 : decode k_Lw_remove.1 19 = .ok (.ireturn, 1) := by decide +kernel
theorem d_Lw_move_0 : decode k_Lw_move.1 0 = .ok (.aload_n 3, 1) := by decide +kernel
theorem d_Lw_move_1 : decode k_Lw_move.1 1 = .ok (.iconst 0, 1) := by decide +kernel
theorem d_Lw_move_2 : decode k_Lw_move.1 2 = .ok (.aload_n 0, 1) := by decide +kernel
theorem d_Lw_move_3 : decode k_Lw_move.1 3 = .ok (.iload_n 1, 1) := by decide +kernel
theorem d_Lw_move_4 : decode k_Lw_move.1 4 = .ok (.iload_n 2, 1) := by decide +kernel
theorem d_Lw_move_5 : decode k_Lw_move.1 5 = .ok (.invokevirtual 31, 3) := by decide +kernel
theorem d_Lw_move_8 : decode k_Lw_move.1 8 = .ok (.i2l, 1) := by decide +kernel
theorem d_Lw_move_9 : decode k_Lw_move.1 9 = .ok (.lastore, 1) := by decide +kernel
theorem d_Lw_move_10 : decode k_Lw_move.1 10 = .ok (.goto 15, 3) := by decide +kernel
theorem d_Lw_move_13 : decode k_Lw_move.1 13 = .ok (.astore 4, 2) := by decide +kernel
theorem d_Lw_move_15 : decode k_Lw_move.1 15 = .ok (.iconst 1, 1) := by decide +kernel
theorem d_Lw_move_16 : decode k_Lw_move.1 16 = .ok (.ireturn, 1) := by decide +kernel
theorem d_Lw_move_17 : decode k_Lw_move.1 17 = .ok (.astore 4, 2) := by decide +kernel
theorem d_Lw_move_19 : decode k_Lw_move.1 19 = .ok (.iconst 2, 1) := by decide +kernel
theorem d_Lw_move_20 : decode k_Lw_move.1 20 = .ok (.ireturn, 1) := by decide +kernel
theorem d_Lw_move_21 : decode k_Lw_move.1 21 = .ok (.astore 4, 2) := by decide +kernel
theorem d_Lw_move_23 : decode k_Lw_move.1 23 = .ok (.iconst 3, 1) := by decide +kernel
theorem d_Lw_move_24 : decode k_Lw_move.1 24 = .ok (.ireturn, 1) := by decide +kernel
theorem d_Lw_move_25 : decode k_Lw_move.1 25 = .ok (.iconst 0, 1) := by decide +kernel
theorem d_Lw_move_26 : decode k_Lw_move.1 26 = .ok (.ireturn, 1) := by decide +kernel
theorem d_Lw_work_0 : decode k_Lw_work.1 0 = .ok (.aload_n 2, 1) := by decide +kernel
theorem d_Lw_work_1 : decode k_Lw_work.1 1 = .ok (.iconst 0, 1) := by decide +kernel
theorem d_Lw_work_2 : decode k_Lw_work.1 2 = .ok (.aload_n 0, 1) := by decide +kernel
theorem d_Lw_work_3 : decode k_Lw_work.1 3 = .ok (.iload_n 1, 1) := by decide +kernel
theorem d_Lw_work_4 : decode k_Lw_work.1 4 = .ok (.invokevirtual 34, 3) := by decide +kernel
theorem d_Lw_work_7 : decode k_Lw_work.1 7 = .ok (.i2l, 1) := by decide +kernel
theorem d_Lw_work_8 : decode k_Lw_work.1 8 = .ok (.lastore, 1) := by decide +kernel
theorem d_Lw_work_9 : decode k_Lw_work.1 9 = .ok (.goto 9, 3) := by decide +kernel
theorem d_Lw_work_12 : decode k_Lw_work.1 12 = .ok (.astore_n 3, 1) := by decide +kernel
theorem d_Lw_work_13 : decode k_Lw_work.1 13 = .ok (.iconst 1, 1) := by decide +kernel
theorem d_Lw_work_14 : decode k_Lw_work.1 14 = .ok (.ireturn, 1) := by decide +kernel
theorem d_Lw_work_15 : decode k_Lw_work.1 15 = .ok (.astore_n 3, 1) := by decide +kernel
theorem d_Lw_work_16 : decode k_Lw_work.1 16 = .ok (.iconst 2, 1) := by decide +kernel
theorem d_Lw_work_17 : decode k_Lw_work.1 17 = .ok (.ireturn, 1) := by decide +kernel
theorem d_Lw_work_18 : decode k_Lw_work.1 18 = .ok (.iconst 0, 1) := by decide +kernel
theorem d_Lw_work_19 : decode k_Lw_work.1 19 = .ok (.ireturn, 1) := by decide +kernel
theorem d_Lw_type_0 : decode k_Lw_type.1 0 = .ok (.aload_n 2, 1) := by decide +kernel
theorem d_Lw_type_1 : decode k_Lw_type.1 1 = .ok (.iconst 0, 1) := by decide +kernel
theorem d_Lw_type_2 : decode k_Lw_type.1 2 = .ok (.aload_n 0, 1) := by decide +kernel
theorem d_Lw_type_3 : decode k_Lw_type.1 3 = .ok (.iload_n 1, 1) := by decide +kernel
theorem d_Lw_type_4 : decode k_Lw_type.1 4 = .ok (.invokevirtual 37, 3) := by decide +kernel
theorem d_Lw_type_7 : decode k_Lw_type.1 7 = .ok (.i2l, 1) := by decide +kernel
theorem d_Lw_type_8 : decode k_Lw_type.1 8 = .ok (.lastore, 1) := by decide +kernel
theorem d_Lw_type_9 : decode k_Lw_type.1 9 = .ok (.goto 9, 3) := by decide +kernel
theorem d_Lw_type_12 : decode k_Lw_type.1 12 = .ok (.astore_n 3, 1) := by decide +kernel
theorem d_Lw_type_13 : decode k_Lw_type.1 13 = .ok (.iconst 1, 1) := by decide +kernel
theorem d_Lw_type_14 : decode k_Lw_type.1 14 = .ok (.ireturn, 1) := by decide +kernel
theorem d_Lw_type_15 : decode k_Lw_type.1 15 = .ok (.astore_n 3, 1) := by decide +kernel
end
section
theorem d_Lw_type_16 : decode k_Lw_type.1 16 = .ok (.iconst 2, 1) := by decide +kernel
theorem d_Lw_type_17 : decode k_Lw_type.1 17 = .ok (.ireturn, 1) := by decide +kernel
theorem d_Lw_type_18 : decode k_Lw_type.1 18 = .ok (.iconst 0, 1) := by decide +kernel
theorem d_Lw_type_19 : decode k_Lw_type.1 19 = .ok (.ireturn, 1) := by decide +kernel
theorem d_Lw_search_0 : decode k_Lw_search.1 0 = .ok (.aload_n 2, 1) := by decide +kernel
theorem d_Lw_search_1 : decode k_Lw_search.1 1 = .ok (.iconst 0, 1) := by decide +kernel
theorem d_Lw_search_2 : decode k_Lw_search.1 2 = .ok (.aload_n 0, 1) := by decide +kernel
theorem d_Lw_search_3 : decode k_Lw_search.1 3 = .ok (.iload_n 1, 1) := by decide +kernel
theorem d_Lw_search_4 : decode k_Lw_search.1 4 = .ok (.invokevirtual 40, 3) := by decide +kernel
theorem d_Lw_search_7 : decode k_Lw_search.1 7 = .ok (.i2l, 1) := by decide +kernel
theorem d_Lw_search_8 : decode k_Lw_search.1 8 = .ok (.lastore, 1) := by decide +kernel
theorem d_Lw_search_9 : decode k_Lw_search.1 9 = .ok (.goto 9, 3) := by decide +kernel
theorem d_Lw_search_12 : decode k_Lw_search.1 12 = .ok (.astore_n 3, 1) := by decide +kernel
theorem d_Lw_search_13 : decode k_Lw_search.1 13 = .ok (.iconst 1, 1) := by decide +kernel
theorem d_Lw_search_14 : decode k_Lw_search.1 14 = .ok (.ireturn, 1) := by decide +kernel
theorem d_Lw_search_15 : decode k_Lw_search.1 15 = .ok (.astore_n 3, 1) := by decide +kernel
theorem d_Lw_search_16 : decode k_Lw_search.1 16 = .ok (.iconst 2, 1) := by decide +kernel
theorem d_Lw_search_17 : decode k_Lw_search.1 17 = .ok (.ireturn, 1) := by decide +kernel
theorem d_Lw_search_18 : decode k_Lw_search.1 18 = .ok (.iconst 0, 1) := by decide +kernel
theorem d_Lw_search_19 : decode k_Lw_search.1 19 = .ok (.ireturn, 1) := by decide +kernel
theorem d_Lw_result_0 : decode k_Lw_result.1 0 = .ok (.aload_n 3, 1) := by decide +kernel
theorem d_Lw_result_1 : decode k_Lw_result.1 1 = .ok (.iconst 0, 1) := by decide +kernel
theorem d_Lw_result_2 : decode k_Lw_result.1 2 = .ok (.aload_n 0, 1) := by decide +kernel
theorem d_Lw_result_3 : decode k_Lw_result.1 3 = .ok (.iload_n 1, 1) := by decide +kernel
theorem d_Lw_result_4 : decode k_Lw_result.1 4 = .ok (.iload_n 2, 1) := by decide +kernel
theorem d_Lw_result_5 : decode k_Lw_result.1 5 = .ok (.invokevirtual 43, 3) := by decide +kernel
theorem d_Lw_result_8 : decode k_Lw_result.1 8 = .ok (.i2l, 1) := by decide +kernel
theorem d_Lw_result_9 : decode k_Lw_result.1 9 = .ok (.lastore, 1) := by decide +kernel
theorem d_Lw_result_10 : decode k_Lw_result.1 10 = .ok (.goto 11, 3) := by decide +kernel
theorem d_Lw_result_13 : decode k_Lw_result.1 13 = .ok (.astore 4, 2) := by decide +kernel
theorem d_Lw_result_15 : decode k_Lw_result.1 15 = .ok (.iconst 1, 1) := by decide +kernel
theorem d_Lw_result_16 : decode k_Lw_result.1 16 = .ok (.ireturn, 1) := by decide +kernel
theorem d_Lw_result_17 : decode k_Lw_result.1 17 = .ok (.astore 4, 2) := by decide +kernel
theorem d_Lw_result_19 : decode k_Lw_result.1 19 = .ok (.iconst 2, 1) := by decide +kernel
theorem d_Lw_result_20 : decode k_Lw_result.1 20 = .ok (.ireturn, 1) := by decide +kernel
theorem d_Lw_result_21 : decode k_Lw_result.1 21 = .ok (.iconst 0, 1) := by decide +kernel
theorem d_Lw_result_22 : decode k_Lw_result.1 22 = .ok (.ireturn, 1) := by decide +kernel
theorem d_Lw_words_0 : decode k_Lw_words.1 0 = .ok (.aload_n 2, 1) := by decide +kernel
theorem d_Lw_words_1 : decode k_Lw_words.1 1 = .ok (.iconst 0, 1) := by decide +kernel
theorem d_Lw_words_2 : decode k_Lw_words.1 2 = .ok (.aload_n 0, 1) := by decide +kernel
theorem d_Lw_words_3 : decode k_Lw_words.1 3 = .ok (.iload_n 1, 1) := by decide +kernel
theorem d_Lw_words_4 : decode k_Lw_words.1 4 = .ok (.invokevirtual 46, 3) := by decide +kernel
theorem d_Lw_words_7 : decode k_Lw_words.1 7 = .ok (.i2l, 1) := by decide +kernel
theorem d_Lw_words_8 : decode k_Lw_words.1 8 = .ok (.lastore, 1) := by decide +kernel
theorem d_Lw_words_9 : decode k_Lw_words.1 9 = .ok (.goto 6, 3) := by decide +kernel
theorem d_Lw_words_12 : decode k_Lw_words.1 12 = .ok (.astore_n 3, 1) := by decide +kernel
theorem d_Lw_words_13 : decode k_Lw_words.1 13 = .ok (.iconst 1, 1) := by decide +kernel
theorem d_Lw_words_14 : decode k_Lw_words.1 14 = .ok (.ireturn, 1) := by decide +kernel
theorem d_Lw_words_15 : decode k_Lw_words.1 15 = .ok (.iconst 0, 1) := by decide +kernel
theorem d_Lw_words_16 : decode k_Lw_words.1 16 = .ok (.ireturn, 1) := by decide +kernel
theorem d_Lw_event_0 : decode k_Lw_event.1 0 = .ok (.aload_n 2, 1) := by decide +kernel
theorem d_Lw_event_1 : decode k_Lw_event.1 1 = .ok (.iconst 0, 1) := by decide +kernel
theorem d_Lw_event_2 : decode k_Lw_event.1 2 = .ok (.aload_n 0, 1) := by decide +kernel
theorem d_Lw_event_3 : decode k_Lw_event.1 3 = .ok (.iload_n 1, 1) := by decide +kernel
theorem d_Lw_event_4 : decode k_Lw_event.1 4 = .ok (.invokevirtual 49, 3) := by decide +kernel
theorem d_Lw_event_7 : decode k_Lw_event.1 7 = .ok (.i2l, 1) := by decide +kernel
theorem d_Lw_event_8 : decode k_Lw_event.1 8 = .ok (.lastore, 1) := by decide +kernel
theorem d_Lw_event_9 : decode k_Lw_event.1 9 = .ok (.goto 6, 3) := by decide +kernel
theorem d_Lw_event_12 : decode k_Lw_event.1 12 = .ok (.astore_n 3, 1) := by decide +kernel
theorem d_Lw_event_13 : decode k_Lw_event.1 13 = .ok (.iconst 1, 1) := by decide +kernel
theorem d_Lw_event_14 : decode k_Lw_event.1 14 = .ok (.ireturn, 1) := by decide +kernel
theorem d_Lw_event_15 : decode k_Lw_event.1 15 = .ok (.iconst 0, 1) := by decide +kernel
theorem d_Lw_event_16 : decode k_Lw_event.1 16 = .ok (.ireturn, 1) := by decide +kernel
theorem d_Lw_count_0 : decode k_Lw_count.1 0 = .ok (.aload_n 2, 1) := by decide +kernel
theorem d_Lw_count_1 : decode k_Lw_count.1 1 = .ok (.iconst 0, 1) := by decide +kernel
theorem d_Lw_count_2 : decode k_Lw_count.1 2 = .ok (.aload_n 0, 1) := by decide +kernel
theorem d_Lw_count_3 : decode k_Lw_count.1 3 = .ok (.iload_n 1, 1) := by decide +kernel
theorem d_Lw_count_4 : decode k_Lw_count.1 4 = .ok (.invokevirtual 52, 3) := by decide +kernel
theorem d_Lw_count_7 : decode k_Lw_count.1 7 = .ok (.i2l, 1) := by decide +kernel
theorem d_Lw_count_8 : decode k_Lw_count.1 8 = .ok (.lastore, 1) := by decide +kernel
theorem d_Lw_count_9 : decode k_Lw_count.1 9 = .ok (.goto 6, 3) := by decide +kernel
theorem d_Lw_count_12 : decode k_Lw_count.1 12 = .ok (.astore_n 3, 1) := by decide +kernel
theorem d_Lw_count_13 : decode k_Lw_count.1 13 = .ok (.iconst 1, 1) := by decide +kernel
theorem d_Lw_count_14 : decode k_Lw_count.1 14 = .ok (.ireturn, 1) := by decide +kernel
theorem d_Lw_count_15 : decode k_Lw_count.1 15 = .ok (.iconst 0, 1) := by decide +kernel
theorem d_Lw_count_16 : decode k_Lw_count.1 16 = .ok (.ireturn, 1) := by decide +kernel
theorem d_Lw_law_0 : decode k_Lw_law.1 0 = .ok (.new 8, 3) := by decide +kernel
theorem d_Lw_law_3 : decode k_Lw_law.1 3 = .ok (.dup, 1) := by decide +kernel
theorem d_Lw_law_4 : decode k_Lw_law.1 4 = .ok (.invokespecial 55, 3) := by decide +kernel
theorem d_Lw_law_7 : decode k_Lw_law.1 7 = .ok (.astore_n 1, 1) := by decide +kernel
theorem d_Lw_law_8 : decode k_Lw_law.1 8 = .ok (.new 56, 3) := by decide +kernel
theorem d_Lw_law_11 : decode k_Lw_law.1 11 = .ok (.dup, 1) := by decide +kernel
theorem d_Lw_law_12 : decode k_Lw_law.1 12 = .ok (.invokespecial 58, 3) := by decide +kernel
theorem d_Lw_law_15 : decode k_Lw_law.1 15 = .ok (.astore_n 2, 1) := by decide +kernel
theorem d_Lw_law_16 : decode k_Lw_law.1 16 = .ok (.iconst 1, 1) := by decide +kernel
theorem d_Lw_law_17 : decode k_Lw_law.1 17 = .ok (.newarray .long, 2) := by decide +kernel
theorem d_Lw_law_19 : decode k_Lw_law.1 19 = .ok (.astore_n 3, 1) := by decide +kernel
theorem d_Lw_law_20 : decode k_Lw_law.1 20 = .ok (.iconst 0, 1) := by decide +kernel
theorem d_Lw_law_21 : decode k_Lw_law.1 21 = .ok (.istore 4, 2) := by decide +kernel
theorem d_Lw_law_23 : decode k_Lw_law.1 23 = .ok (.iload 4, 2) := by decide +kernel
theorem d_Lw_law_25 : decode k_Lw_law.1 25 = .ok (.aload_n 0, 1) := by decide +kernel
theorem d_Lw_law_26 : decode k_Lw_law.1 26 = .ok (.arraylength, 1) := by decide +kernel
theorem d_Lw_law_27 : decode k_Lw_law.1 27 = .ok (.iconst 5, 1) := by decide +kernel
theorem d_Lw_law_28 : decode k_Lw_law.1 28 = .ok (.isub, 1) := by decide +kernel
theorem d_Lw_law_29 : decode k_Lw_law.1 29 = .ok (.if_icmp .gt 915, 3) := by decide +kernel
theorem d_Lw_law_32 : decode k_Lw_law.1 32 = .ok (.aload_n 0, 1) := by decide +kernel
theorem d_Lw_law_33 : decode k_Lw_law.1 33 = .ok (.iload 4, 2) := by decide +kernel
theorem d_Lw_law_35 : decode k_Lw_law.1 35 = .ok (.iaload, 1) := by decide +kernel
theorem d_Lw_law_36 : decode k_Lw_law.1 36 = .ok (.bipush 15, 2) := by decide +kernel
theorem d_Lw_law_38 : decode k_Lw_law.1 38 = .ok (.iand, 1) := by decide +kernel
theorem d_Lw_law_39 : decode k_Lw_law.1 39 = .ok (.tableswitch 899 0 13 #[69, 165, 277, 345, 401, 469, 525, 538, 594, 650, 663, 731, 787, 843], 69) := by decide +kernel
theorem d_Lw_law_108 : decode k_Lw_law.1 108 = .ok (.aload_n 1, 1) := by decide +kernel
theorem d_Lw_law_109 : decode k_Lw_law.1 109 = .ok (.aload_n 0, 1) := by decide +kernel
theorem d_Lw_law_110 : decode k_Lw_law.1 110 = .ok (.iload 4, 2) := by decide +kernel
theorem d_Lw_law_112 : decode k_Lw_law.1 112 = .ok (.iconst 1, 1) := by decide +kernel
theorem d_Lw_law_113 : decode k_Lw_law.1 113 = .ok (.iadd, 1) := by decide +kernel
theorem d_Lw_law_114 : decode k_Lw_law.1 114 = .ok (.iaload, 1) := by decide +kernel
theorem d_Lw_law_115 : decode k_Lw_law.1 115 = .ok (.aload_n 0, 1) := by decide +kernel
theorem d_Lw_law_116 : decode k_Lw_law.1 116 = .ok (.iload 4, 2) := by decide +kernel
theorem d_Lw_law_118 : decode k_Lw_law.1 118 = .ok (.iconst 2, 1) := by decide +kernel
theorem d_Lw_law_119 : decode k_Lw_law.1 119 = .ok (.iadd, 1) := by decide +kernel
theorem d_Lw_law_120 : decode k_Lw_law.1 120 = .ok (.iaload, 1) := by decide +kernel
theorem d_Lw_law_121 : decode k_Lw_law.1 121 = .ok (.aload_n 0, 1) := by decide +kernel
theorem d_Lw_law_122 : decode k_Lw_law.1 122 = .ok (.iload 4, 2) := by decide +kernel
theorem d_Lw_law_124 : decode k_Lw_law.1 124 = .ok (.iconst 3, 1) := by decide +kernel
theorem d_Lw_law_125 : decode k_Lw_law.1 125 = .ok (.iadd, 1) := by decide +kernel
theorem d_Lw_law_126 : decode k_Lw_law.1 126 = .ok (.iaload, 1) := by decide +kernel
theorem d_Lw_law_127 : decode k_Lw_law.1 127 = .ok (.ifCond .eq 7, 3) := by decide +kernel
theorem d_Lw_law_130 : decode k_Lw_law.1 130 = .ok (.iconst 1, 1) := by decide +kernel
theorem d_Lw_law_131 : decode k_Lw_law.1 131 = .ok (.goto 4, 3) := by decide +kernel
end
section
theorem d_Lw_law_134 : decode k_Lw_law.1 134 = .ok (.iconst 0, 1) := by decide +kernel
theorem d_Lw_law_135 : decode k_Lw_law.1 135 = .ok (.aload_n 3, 1) := by decide +kernel
theorem d_Lw_law_136 : decode k_Lw_law.1 136 = .ok (.invokestatic 59, 3) := by decide +kernel
theorem d_Lw_law_139 : decode k_Lw_law.1 139 = .ok (.istore 5, 2) := by decide +kernel
theorem d_Lw_law_141 : decode k_Lw_law.1 141 = .ok (.aload_n 2, 1) := by decide +kernel
theorem d_Lw_law_142 : decode k_Lw_law.1 142 = .ok (.aload_n 0, 1) := by decide +kernel
theorem d_Lw_law_143 : decode k_Lw_law.1 143 = .ok (.iload 4, 2) := by decide +kernel
theorem d_Lw_law_145 : decode k_Lw_law.1 145 = .ok (.iconst 1, 1) := by decide +kernel
theorem d_Lw_law_146 : decode k_Lw_law.1 146 = .ok (.iadd, 1) := by decide +kernel
theorem d_Lw_law_147 : decode k_Lw_law.1 147 = .ok (.iaload, 1) := by decide +kernel
theorem d_Lw_law_148 : decode k_Lw_law.1 148 = .ok (.aload_n 0, 1) := by decide +kernel
theorem d_Lw_law_149 : decode k_Lw_law.1 149 = .ok (.iload 4, 2) := by decide +kernel
theorem d_Lw_law_151 : decode k_Lw_law.1 151 = .ok (.iconst 2, 1) := by decide +kernel
theorem d_Lw_law_152 : decode k_Lw_law.1 152 = .ok (.iadd, 1) := by decide +kernel
theorem d_Lw_law_153 : decode k_Lw_law.1 153 = .ok (.iaload, 1) := by decide +kernel
theorem d_Lw_law_154 : decode k_Lw_law.1 154 = .ok (.aload_n 0, 1) := by decide +kernel
theorem d_Lw_law_155 : decode k_Lw_law.1 155 = .ok (.iload 4, 2) := by decide +kernel
theorem d_Lw_law_157 : decode k_Lw_law.1 157 = .ok (.iconst 3, 1) := by decide +kernel
theorem d_Lw_law_158 : decode k_Lw_law.1 158 = .ok (.iadd, 1) := by decide +kernel
theorem d_Lw_law_159 : decode k_Lw_law.1 159 = .ok (.iaload, 1) := by decide +kernel
theorem d_Lw_law_160 : decode k_Lw_law.1 160 = .ok (.ifCond .eq 7, 3) := by decide +kernel
theorem d_Lw_law_163 : decode k_Lw_law.1 163 = .ok (.iconst 1, 1) := by decide +kernel
theorem d_Lw_law_164 : decode k_Lw_law.1 164 = .ok (.goto 4, 3) := by decide +kernel
theorem d_Lw_law_167 : decode k_Lw_law.1 167 = .ok (.iconst 0, 1) := by decide +kernel
theorem d_Lw_law_168 : decode k_Lw_law.1 168 = .ok (.invokevirtual 64, 3) := by decide +kernel
theorem d_Lw_law_171 : decode k_Lw_law.1 171 = .ok (.istore 6, 2) := by decide +kernel
theorem d_Lw_law_173 : decode k_Lw_law.1 173 = .ok (.aload_n 2, 1) := by decide +kernel
theorem d_Lw_law_174 : decode k_Lw_law.1 174 = .ok (.invokevirtual 65, 3) := by decide +kernel
theorem d_Lw_law_177 : decode k_Lw_law.1 177 = .ok (.iload 5, 2) := by decide +kernel
theorem d_Lw_law_179 : decode k_Lw_law.1 179 = .ok (.if_icmp .eq 5, 3) := by decide +kernel
theorem d_Lw_law_182 : decode k_Lw_law.1 182 = .ok (.iconst 0, 1) := by decide +kernel
theorem d_Lw_law_183 : decode k_Lw_law.1 183 = .ok (.ireturn, 1) := by decide +kernel
theorem d_Lw_law_184 : decode k_Lw_law.1 184 = .ok (.iload 5, 2) := by decide +kernel
theorem d_Lw_law_186 : decode k_Lw_law.1 186 = .ok (.ifCond .ne 15, 3) := by decide +kernel
theorem d_Lw_law_189 : decode k_Lw_law.1 189 = .ok (.aload_n 3, 1) := by decide +kernel
theorem d_Lw_law_190 : decode k_Lw_law.1 190 = .ok (.iconst 0, 1) := by decide +kernel
theorem d_Lw_law_191 : decode k_Lw_law.1 191 = .ok (.laload, 1) := by decide +kernel
theorem d_Lw_law_192 : decode k_Lw_law.1 192 = .ok (.iload 6, 2) := by decide +kernel
theorem d_Lw_law_194 : decode k_Lw_law.1 194 = .ok (.i2l, 1) := by decide +kernel
theorem d_Lw_law_195 : decode k_Lw_law.1 195 = .ok (.lcmp, 1) := by decide +kernel
theorem d_Lw_law_196 : decode k_Lw_law.1 196 = .ok (.ifCond .eq 5, 3) := by decide +kernel
theorem d_Lw_law_199 : decode k_Lw_law.1 199 = .ok (.iconst 0, 1) := by decide +kernel
theorem d_Lw_law_200 : decode k_Lw_law.1 200 = .ok (.ireturn, 1) := by decide +kernel
theorem d_Lw_law_201 : decode k_Lw_law.1 201 = .ok (.goto 737, 3) := by decide +kernel
theorem d_Lw_law_204 : decode k_Lw_law.1 204 = .ok (.aload_n 1, 1) := by decide +kernel
theorem d_Lw_law_205 : decode k_Lw_law.1 205 = .ok (.aload_n 0, 1) := by decide +kernel
theorem d_Lw_law_206 : decode k_Lw_law.1 206 = .ok (.iload 4, 2) := by decide +kernel
theorem d_Lw_law_208 : decode k_Lw_law.1 208 = .ok (.iconst 1, 1) := by decide +kernel
theorem d_Lw_law_209 : decode k_Lw_law.1 209 = .ok (.iadd, 1) := by decide +kernel
theorem d_Lw_law_210 : decode k_Lw_law.1 210 = .ok (.iaload, 1) := by decide +kernel
theorem d_Lw_law_211 : decode k_Lw_law.1 211 = .ok (.aload_n 0, 1) := by decide +kernel
theorem d_Lw_law_212 : decode k_Lw_law.1 212 = .ok (.iload 4, 2) := by decide +kernel
theorem d_Lw_law_214 : decode k_Lw_law.1 214 = .ok (.iconst 2, 1) := by decide +kernel
theorem d_Lw_law_215 : decode k_Lw_law.1 215 = .ok (.iadd, 1) := by decide +kernel
theorem d_Lw_law_216 : decode k_Lw_law.1 216 = .ok (.iaload, 1) := by decide +kernel
theorem d_Lw_law_217 : decode k_Lw_law.1 217 = .ok (.i2l, 1) := by decide +kernel
theorem d_Lw_law_218 : decode k_Lw_law.1 218 = .ok (.bipush 32, 2) := by decide +kernel
theorem d_Lw_law_220 : decode k_Lw_law.1 220 = .ok (.lshl, 1) := by decide +kernel
theorem d_Lw_law_221 : decode k_Lw_law.1 221 = .ok (.aload_n 0, 1) := by decide +kernel
theorem d_Lw_law_222 : decode k_Lw_law.1 222 = .ok (.iload 4, 2) := by decide +kernel
theorem d_Lw_law_224 : decode k_Lw_law.1 224 = .ok (.iconst 3, 1) := by decide +kernel
theorem d_Lw_law_225 : decode k_Lw_law.1 225 = .ok (.iadd, 1) := by decide +kernel
theorem d_Lw_law_226 : decode k_Lw_law.1 226 = .ok (.iaload, 1) := by decide +kernel
theorem d_Lw_law_227 : decode k_Lw_law.1 227 = .ok (.i2l, 1) := by decide +kernel
theorem d_Lw_law_228 : decode k_Lw_law.1 228 = .ok (.ldc2_w 69, 3) := by decide +kernel
theorem d_Lw_law_231 : decode k_Lw_law.1 231 = .ok (.land, 1) := by decide +kernel
theorem d_Lw_law_232 : decode k_Lw_law.1 232 = .ok (.lor, 1) := by decide +kernel
theorem d_Lw_law_233 : decode k_Lw_law.1 233 = .ok (.aload_n 0, 1) := by decide +kernel
theorem d_Lw_law_234 : decode k_Lw_law.1 234 = .ok (.iload 4, 2) := by decide +kernel
theorem d_Lw_law_236 : decode k_Lw_law.1 236 = .ok (.iconst 4, 1) := by decide +kernel
theorem d_Lw_law_237 : decode k_Lw_law.1 237 = .ok (.iadd, 1) := by decide +kernel
theorem d_Lw_law_238 : decode k_Lw_law.1 238 = .ok (.iaload, 1) := by decide +kernel
theorem d_Lw_law_239 : decode k_Lw_law.1 239 = .ok (.aload_n 3, 1) := by decide +kernel
theorem d_Lw_law_240 : decode k_Lw_law.1 240 = .ok (.invokestatic 71, 3) := by decide +kernel
theorem d_Lw_law_243 : decode k_Lw_law.1 243 = .ok (.istore 5, 2) := by decide +kernel
theorem d_Lw_law_245 : decode k_Lw_law.1 245 = .ok (.aload_n 2, 1) := by decide +kernel
theorem d_Lw_law_246 : decode k_Lw_law.1 246 = .ok (.aload_n 0, 1) := by decide +kernel
theorem d_Lw_law_247 : decode k_Lw_law.1 247 = .ok (.iload 4, 2) := by decide +kernel
theorem d_Lw_law_249 : decode k_Lw_law.1 249 = .ok (.iconst 1, 1) := by decide +kernel
theorem d_Lw_law_250 : decode k_Lw_law.1 250 = .ok (.iadd, 1) := by decide +kernel
theorem d_Lw_law_251 : decode k_Lw_law.1 251 = .ok (.iaload, 1) := by decide +kernel
theorem d_Lw_law_252 : decode k_Lw_law.1 252 = .ok (.aload_n 0, 1) := by decide +kernel
theorem d_Lw_law_253 : decode k_Lw_law.1 253 = .ok (.iload 4, 2) := by decide +kernel
theorem d_Lw_law_255 : decode k_Lw_law.1 255 = .ok (.iconst 2, 1) := by decide +kernel
theorem d_Lw_law_256 : decode k_Lw_law.1 256 = .ok (.iadd, 1) := by decide +kernel
theorem d_Lw_law_257 : decode k_Lw_law.1 257 = .ok (.iaload, 1) := by decide +kernel
theorem d_Lw_law_258 : decode k_Lw_law.1 258 = .ok (.i2l, 1) := by decide +kernel
theorem d_Lw_law_259 : decode k_Lw_law.1 259 = .ok (.bipush 32, 2) := by decide +kernel
theorem d_Lw_law_261 : decode k_Lw_law.1 261 = .ok (.lshl, 1) := by decide +kernel
theorem d_Lw_law_262 : decode k_Lw_law.1 262 = .ok (.aload_n 0, 1) := by decide +kernel
theorem d_Lw_law_263 : decode k_Lw_law.1 263 = .ok (.iload 4, 2) := by decide +kernel
theorem d_Lw_law_265 : decode k_Lw_law.1 265 = .ok (.iconst 3, 1) := by decide +kernel
theorem d_Lw_law_266 : decode k_Lw_law.1 266 = .ok (.iadd, 1) := by decide +kernel
theorem d_Lw_law_267 : decode k_Lw_law.1 267 = .ok (.iaload, 1) := by decide +kernel
theorem d_Lw_law_268 : decode k_Lw_law.1 268 = .ok (.i2l, 1) := by decide +kernel
theorem d_Lw_law_269 : decode k_Lw_law.1 269 = .ok (.ldc2_w 69, 3) := by decide +kernel
theorem d_Lw_law_272 : decode k_Lw_law.1 272 = .ok (.land, 1) := by decide +kernel
theorem d_Lw_law_273 : decode k_Lw_law.1 273 = .ok (.lor, 1) := by decide +kernel
theorem d_Lw_law_274 : decode k_Lw_law.1 274 = .ok (.aload_n 0, 1) := by decide +kernel
theorem d_Lw_law_275 : decode k_Lw_law.1 275 = .ok (.iload 4, 2) := by decide +kernel
theorem d_Lw_law_277 : decode k_Lw_law.1 277 = .ok (.iconst 4, 1) := by decide +kernel
theorem d_Lw_law_278 : decode k_Lw_law.1 278 = .ok (.iadd, 1) := by decide +kernel
theorem d_Lw_law_279 : decode k_Lw_law.1 279 = .ok (.iaload, 1) := by decide +kernel
theorem d_Lw_law_280 : decode k_Lw_law.1 280 = .ok (.invokevirtual 74, 3) := by decide +kernel
theorem d_Lw_law_283 : decode k_Lw_law.1 283 = .ok (.istore 6, 2) := by decide +kernel
theorem d_Lw_law_285 : decode k_Lw_law.1 285 = .ok (.aload_n 2, 1) := by decide +kernel
theorem d_Lw_law_286 : decode k_Lw_law.1 286 = .ok (.invokevirtual 65, 3) := by decide +kernel
theorem d_Lw_law_289 : decode k_Lw_law.1 289 = .ok (.iload 5, 2) := by decide +kernel
theorem d_Lw_law_291 : decode k_Lw_law.1 291 = .ok (.if_icmp .eq 5, 3) := by decide +kernel
theorem d_Lw_law_294 : decode k_Lw_law.1 294 = .ok (.iconst 0, 1) := by decide +kernel
theorem d_Lw_law_295 : decode k_Lw_law.1 295 = .ok (.ireturn, 1) := by decide +kernel
theorem d_Lw_law_296 : decode k_Lw_law.1 296 = .ok (.iload 5, 2) := by decide +kernel
theorem d_Lw_law_298 : decode k_Lw_law.1 298 = .ok (.ifCond .ne 15, 3) := by decide +kernel
theorem d_Lw_law_301 : decode k_Lw_law.1 301 = .ok (.aload_n 3, 1) := by decide +kernel
theorem d_Lw_law_302 : decode k_Lw_law.1 302 = .ok (.iconst 0, 1) := by decide +kernel
theorem d_Lw_law_303 : decode k_Lw_law.1 303 = .ok (.laload, 1) := by decide +kernel
theorem d_Lw_law_304 : decode k_Lw_law.1 304 = .ok (.iload 6, 2) := by decide +kernel
theorem d_Lw_law_306 : decode k_Lw_law.1 306 = .ok (.i2l, 1) := by decide +kernel
theorem d_Lw_law_307 : decode k_Lw_law.1 307 = .ok (.lcmp, 1) := by decide +kernel
theorem d_Lw_law_308 : decode k_Lw_law.1 308 = .ok (.ifCond .eq 5, 3) := by decide +kernel
end
section
theorem d_Lw_law_311 : decode k_Lw_law.1 311 = .ok (.iconst 0, 1) := by decide +kernel
theorem d_Lw_law_312 : decode k_Lw_law.1 312 = .ok (.ireturn, 1) := by decide +kernel
theorem d_Lw_law_313 : decode k_Lw_law.1 313 = .ok (.goto 625, 3) := by decide +kernel
theorem d_Lw_law_316 : decode k_Lw_law.1 316 = .ok (.aload_n 1, 1) := by decide +kernel
theorem d_Lw_law_317 : decode k_Lw_law.1 317 = .ok (.aload_n 0, 1) := by decide +kernel
theorem d_Lw_law_318 : decode k_Lw_law.1 318 = .ok (.iload 4, 2) := by decide +kernel
theorem d_Lw_law_320 : decode k_Lw_law.1 320 = .ok (.iconst 1, 1) := by decide +kernel
theorem d_Lw_law_321 : decode k_Lw_law.1 321 = .ok (.iadd, 1) := by decide +kernel
theorem d_Lw_law_322 : decode k_Lw_law.1 322 = .ok (.iaload, 1) := by decide +kernel
theorem d_Lw_law_323 : decode k_Lw_law.1 323 = .ok (.aload_n 0, 1) := by decide +kernel
theorem d_Lw_law_324 : decode k_Lw_law.1 324 = .ok (.iload 4, 2) := by decide +kernel
theorem d_Lw_law_326 : decode k_Lw_law.1 326 = .ok (.iconst 2, 1) := by decide +kernel
theorem d_Lw_law_327 : decode k_Lw_law.1 327 = .ok (.iadd, 1) := by decide +kernel
theorem d_Lw_law_328 : decode k_Lw_law.1 328 = .ok (.iaload, 1) := by decide +kernel
theorem d_Lw_law_329 : decode k_Lw_law.1 329 = .ok (.aload_n 3, 1) := by decide +kernel
theorem d_Lw_law_330 : decode k_Lw_law.1 330 = .ok (.invokestatic 75, 3) := by decide +kernel
theorem d_Lw_law_333 : decode k_Lw_law.1 333 = .ok (.istore 5, 2) := by decide +kernel
theorem d_Lw_law_335 : decode k_Lw_law.1 335 = .ok (.aload_n 2, 1) := by decide +kernel
theorem d_Lw_law_336 : decode k_Lw_law.1 336 = .ok (.aload_n 0, 1) := by decide +kernel
theorem d_Lw_law_337 : decode k_Lw_law.1 337 = .ok (.iload 4, 2) := by decide +kernel
theorem d_Lw_law_339 : decode k_Lw_law.1 339 = .ok (.iconst 1, 1) := by decide +kernel
theorem d_Lw_law_340 : decode k_Lw_law.1 340 = .ok (.iadd, 1) := by decide +kernel
theorem d_Lw_law_341 : decode k_Lw_law.1 341 = .ok (.iaload, 1) := by decide +kernel
theorem d_Lw_law_342 : decode k_Lw_law.1 342 = .ok (.aload_n 0, 1) := by decide +kernel
theorem d_Lw_law_343 : decode k_Lw_law.1 343 = .ok (.iload 4, 2) := by decide +kernel
theorem d_Lw_law_345 : decode k_Lw_law.1 345 = .ok (.iconst 2, 1) := by decide +kernel
theorem d_Lw_law_346 : decode k_Lw_law.1 346 = .ok (.iadd, 1) := by decide +kernel
theorem d_Lw_law_347 : decode k_Lw_law.1 347 = .ok (.iaload, 1) := by decide +kernel
theorem d_Lw_law_348 : decode k_Lw_law.1 348 = .ok (.invokevirtual 78, 3) := by decide +kernel
theorem d_Lw_law_351 : decode k_Lw_law.1 351 = .ok (.istore 6, 2) := by decide +kernel
theorem d_Lw_law_353 : decode k_Lw_law.1 353 = .ok (.aload_n 2, 1) := by decide +kernel
theorem d_Lw_law_354 : decode k_Lw_law.1 354 = .ok (.invokevirtual 65, 3) := by decide +kernel
theorem d_Lw_law_357 : decode k_Lw_law.1 357 = .ok (.iload 5, 2) := by decide +kernel
theorem d_Lw_law_359 : decode k_Lw_law.1 359 = .ok (.if_icmp .eq 5, 3) := by decide +kernel
theorem d_Lw_law_362 : decode k_Lw_law.1 362 = .ok (.iconst 0, 1) := by decide +kernel
theorem d_Lw_law_363 : decode k_Lw_law.1 363 = .ok (.ireturn, 1) := by decide +kernel
theorem d_Lw_law_364 : decode k_Lw_law.1 364 = .ok (.iload 5, 2) := by decide +kernel
theorem d_Lw_law_366 : decode k_Lw_law.1 366 = .ok (.ifCond .ne 15, 3) := by decide +kernel
theorem d_Lw_law_369 : decode k_Lw_law.1 369 = .ok (.aload_n 3, 1) := by decide +kernel
theorem d_Lw_law_370 : decode k_Lw_law.1 370 = .ok (.iconst 0, 1) := by decide +kernel
theorem d_Lw_law_371 : decode k_Lw_law.1 371 = .ok (.laload, 1) := by decide +kernel
theorem d_Lw_law_372 : decode k_Lw_law.1 372 = .ok (.iload 6, 2) := by decide +kernel
theorem d_Lw_law_374 : decode k_Lw_law.1 374 = .ok (.i2l, 1) := by decide +kernel
theorem d_Lw_law_375 : decode k_Lw_law.1 375 = .ok (.lcmp, 1) := by decide +kernel
theorem d_Lw_law_376 : decode k_Lw_law.1 376 = .ok (.ifCond .eq 5, 3) := by decide +kernel
theorem d_Lw_law_379 : decode k_Lw_law.1 379 = .ok (.iconst 0, 1) := by decide +kernel
theorem d_Lw_law_380 : decode k_Lw_law.1 380 = .ok (.ireturn, 1) := by decide +kernel
theorem d_Lw_law_381 : decode k_Lw_law.1 381 = .ok (.goto 557, 3) := by decide +kernel
theorem d_Lw_law_384 : decode k_Lw_law.1 384 = .ok (.aload_n 1, 1) := by decide +kernel
theorem d_Lw_law_385 : decode k_Lw_law.1 385 = .ok (.aload_n 0, 1) := by decide +kernel
theorem d_Lw_law_386 : decode k_Lw_law.1 386 = .ok (.iload 4, 2) := by decide +kernel
theorem d_Lw_law_388 : decode k_Lw_law.1 388 = .ok (.iconst 1, 1) := by decide +kernel
theorem d_Lw_law_389 : decode k_Lw_law.1 389 = .ok (.iadd, 1) := by decide +kernel
theorem d_Lw_law_390 : decode k_Lw_law.1 390 = .ok (.iaload, 1) := by decide +kernel
theorem d_Lw_law_391 : decode k_Lw_law.1 391 = .ok (.aload_n 3, 1) := by decide +kernel
theorem d_Lw_law_392 : decode k_Lw_law.1 392 = .ok (.invokestatic 79, 3) := by decide +kernel
theorem d_Lw_law_395 : decode k_Lw_law.1 395 = .ok (.istore 5, 2) := by decide +kernel
theorem d_Lw_law_397 : decode k_Lw_law.1 397 = .ok (.aload_n 2, 1) := by decide +kernel
theorem d_Lw_law_398 : decode k_Lw_law.1 398 = .ok (.aload_n 0, 1) := by decide +kernel
theorem d_Lw_law_399 : decode k_Lw_law.1 399 = .ok (.iload 4, 2) := by decide +kernel
theorem d_Lw_law_401 : decode k_Lw_law.1 401 = .ok (.iconst 1, 1) := by decide +kernel
theorem d_Lw_law_402 : decode k_Lw_law.1 402 = .ok (.iadd, 1) := by decide +kernel
theorem d_Lw_law_403 : decode k_Lw_law.1 403 = .ok (.iaload, 1) := by decide +kernel
theorem d_Lw_law_404 : decode k_Lw_law.1 404 = .ok (.invokevirtual 82, 3) := by decide +kernel
theorem d_Lw_law_407 : decode k_Lw_law.1 407 = .ok (.istore 6, 2) := by decide +kernel
theorem d_Lw_law_409 : decode k_Lw_law.1 409 = .ok (.aload_n 2, 1) := by decide +kernel
theorem d_Lw_law_410 : decode k_Lw_law.1 410 = .ok (.invokevirtual 65, 3) := by decide +kernel
theorem d_Lw_law_413 : decode k_Lw_law.1 413 = .ok (.iload 5, 2) := by decide +kernel
theorem d_Lw_law_415 : decode k_Lw_law.1 415 = .ok (.if_icmp .eq 5, 3) := by decide +kernel
theorem d_Lw_law_418 : decode k_Lw_law.1 418 = .ok (.iconst 0, 1) := by decide +kernel
theorem d_Lw_law_419 : decode k_Lw_law.1 419 = .ok (.ireturn, 1) := by decide +kernel
theorem d_Lw_law_420 : decode k_Lw_law.1 420 = .ok (.iload 5, 2) := by decide +kernel
theorem d_Lw_law_422 : decode k_Lw_law.1 422 = .ok (.ifCond .ne 15, 3) := by decide +kernel
theorem d_Lw_law_425 : decode k_Lw_law.1 425 = .ok (.aload_n 3, 1) := by decide +kernel
theorem d_Lw_law_426 : decode k_Lw_law.1 426 = .ok (.iconst 0, 1) := by decide +kernel
theorem d_Lw_law_427 : decode k_Lw_law.1 427 = .ok (.laload, 1) := by decide +kernel
theorem d_Lw_law_428 : decode k_Lw_law.1 428 = .ok (.iload 6, 2) := by decide +kernel
theorem d_Lw_law_430 : decode k_Lw_law.1 430 = .ok (.i2l, 1) := by decide +kernel
theorem d_Lw_law_431 : decode k_Lw_law.1 431 = .ok (.lcmp, 1) := by decide +kernel
theorem d_Lw_law_432 : decode k_Lw_law.1 432 = .ok (.ifCond .eq 5, 3) := by decide +kernel
theorem d_Lw_law_435 : decode k_Lw_law.1 435 = .ok (.iconst 0, 1) := by decide +kernel
theorem d_Lw_law_436 : decode k_Lw_law.1 436 = .ok (.ireturn, 1) := by decide +kernel
theorem d_Lw_law_437 : decode k_Lw_law.1 437 = .ok (.goto 501, 3) := by decide +kernel
theorem d_Lw_law_440 : decode k_Lw_law.1 440 = .ok (.aload_n 1, 1) := by decide +kernel
theorem d_Lw_law_441 : decode k_Lw_law.1 441 = .ok (.aload_n 0, 1) := by decide +kernel
theorem d_Lw_law_442 : decode k_Lw_law.1 442 = .ok (.iload 4, 2) := by decide +kernel
theorem d_Lw_law_444 : decode k_Lw_law.1 444 = .ok (.iconst 1, 1) := by decide +kernel
theorem d_Lw_law_445 : decode k_Lw_law.1 445 = .ok (.iadd, 1) := by decide +kernel
theorem d_Lw_law_446 : decode k_Lw_law.1 446 = .ok (.iaload, 1) := by decide +kernel
theorem d_Lw_law_447 : decode k_Lw_law.1 447 = .ok (.aload_n 0, 1) := by decide +kernel
theorem d_Lw_law_448 : decode k_Lw_law.1 448 = .ok (.iload 4, 2) := by decide +kernel
theorem d_Lw_law_450 : decode k_Lw_law.1 450 = .ok (.iconst 2, 1) := by decide +kernel
theorem d_Lw_law_451 : decode k_Lw_law.1 451 = .ok (.iadd, 1) := by decide +kernel
theorem d_Lw_law_452 : decode k_Lw_law.1 452 = .ok (.iaload, 1) := by decide +kernel
theorem d_Lw_law_453 : decode k_Lw_law.1 453 = .ok (.aload_n 3, 1) := by decide +kernel
theorem d_Lw_law_454 : decode k_Lw_law.1 454 = .ok (.invokestatic 83, 3) := by decide +kernel
theorem d_Lw_law_457 : decode k_Lw_law.1 457 = .ok (.istore 5, 2) := by decide +kernel
theorem d_Lw_law_459 : decode k_Lw_law.1 459 = .ok (.aload_n 2, 1) := by decide +kernel
theorem d_Lw_law_460 : decode k_Lw_law.1 460 = .ok (.aload_n 0, 1) := by decide +kernel
theorem d_Lw_law_461 : decode k_Lw_law.1 461 = .ok (.iload 4, 2) := by decide +kernel
theorem d_Lw_law_463 : decode k_Lw_law.1 463 = .ok (.iconst 1, 1) := by decide +kernel
theorem d_Lw_law_464 : decode k_Lw_law.1 464 = .ok (.iadd, 1) := by decide +kernel
theorem d_Lw_law_465 : decode k_Lw_law.1 465 = .ok (.iaload, 1) := by decide +kernel
theorem d_Lw_law_466 : decode k_Lw_law.1 466 = .ok (.aload_n 0, 1) := by decide +kernel
theorem d_Lw_law_467 : decode k_Lw_law.1 467 = .ok (.iload 4, 2) := by decide +kernel
theorem d_Lw_law_469 : decode k_Lw_law.1 469 = .ok (.iconst 2, 1) := by decide +kernel
theorem d_Lw_law_470 : decode k_Lw_law.1 470 = .ok (.iadd, 1) := by decide +kernel
theorem d_Lw_law_471 : decode k_Lw_law.1 471 = .ok (.iaload, 1) := by decide +kernel
theorem d_Lw_law_472 : decode k_Lw_law.1 472 = .ok (.invokevirtual 85, 3) := by decide +kernel
theorem d_Lw_law_475 : decode k_Lw_law.1 475 = .ok (.istore 6, 2) := by decide +kernel
theorem d_Lw_law_477 : decode k_Lw_law.1 477 = .ok (.aload_n 2, 1) := by decide +kernel
theorem d_Lw_law_478 : decode k_Lw_law.1 478 = .ok (.invokevirtual 65, 3) := by decide +kernel
theorem d_Lw_law_481 : decode k_Lw_law.1 481 = .ok (.iload 5, 2) := by decide +kernel
theorem d_Lw_law_483 : decode k_Lw_law.1 483 = .ok (.if_icmp .eq 5, 3) := by decide +kernel
theorem d_Lw_law_486 : decode k_Lw_law.1 486 = .ok (.iconst 0, 1) := by decide +kernel
theorem d_Lw_law_487 : decode k_Lw_law.1 487 = .ok (.ireturn, 1) := by decide +kernel
theorem d_Lw_law_488 : decode k_Lw_law.1 488 = .ok (.iload 5, 2) := by decide +kernel
theorem d_Lw_law_490 : decode k_Lw_law.1 490 = .ok (.ifCond .ne 15, 3) := by decide +kernel
theorem d_Lw_law_493 : decode k_Lw_law.1 493 = .ok (.aload_n 3, 1) := by decide +kernel
theorem d_Lw_law_494 : decode k_Lw_law.1 494 = .ok (.iconst 0, 1) := by decide +kernel
end
section
theorem d_Lw_law_495 : decode k_Lw_law.1 495 = .ok (.laload, 1) := by decide +kernel
theorem d_Lw_law_496 : decode k_Lw_law.1 496 = .ok (.iload 6, 2) := by decide +kernel
theorem d_Lw_law_498 : decode k_Lw_law.1 498 = .ok (.i2l, 1) := by decide +kernel
theorem d_Lw_law_499 : decode k_Lw_law.1 499 = .ok (.lcmp, 1) := by decide +kernel
theorem d_Lw_law_500 : decode k_Lw_law.1 500 = .ok (.ifCond .eq 5, 3) := by decide +kernel
theorem d_Lw_law_503 : decode k_Lw_law.1 503 = .ok (.iconst 0, 1) := by decide +kernel
theorem d_Lw_law_504 : decode k_Lw_law.1 504 = .ok (.ireturn, 1) := by decide +kernel
theorem d_Lw_law_505 : decode k_Lw_law.1 505 = .ok (.goto 433, 3) := by decide +kernel
theorem d_Lw_law_508 : decode k_Lw_law.1 508 = .ok (.aload_n 1, 1) := by decide +kernel
theorem d_Lw_law_509 : decode k_Lw_law.1 509 = .ok (.aload_n 0, 1) := by decide +kernel
theorem d_Lw_law_510 : decode k_Lw_law.1 510 = .ok (.iload 4, 2) := by decide +kernel
theorem d_Lw_law_512 : decode k_Lw_law.1 512 = .ok (.iconst 1, 1) := by decide +kernel
theorem d_Lw_law_513 : decode k_Lw_law.1 513 = .ok (.iadd, 1) := by decide +kernel
theorem d_Lw_law_514 : decode k_Lw_law.1 514 = .ok (.iaload, 1) := by decide +kernel
theorem d_Lw_law_515 : decode k_Lw_law.1 515 = .ok (.aload_n 3, 1) := by decide +kernel
theorem d_Lw_law_516 : decode k_Lw_law.1 516 = .ok (.invokestatic 86, 3) := by decide +kernel
theorem d_Lw_law_519 : decode k_Lw_law.1 519 = .ok (.istore 5, 2) := by decide +kernel
theorem d_Lw_law_521 : decode k_Lw_law.1 521 = .ok (.aload_n 2, 1) := by decide +kernel
theorem d_Lw_law_522 : decode k_Lw_law.1 522 = .ok (.aload_n 0, 1) := by decide +kernel
theorem d_Lw_law_523 : decode k_Lw_law.1 523 = .ok (.iload 4, 2) := by decide +kernel
theorem d_Lw_law_525 : decode k_Lw_law.1 525 = .ok (.iconst 1, 1) := by decide +kernel
theorem d_Lw_law_526 : decode k_Lw_law.1 526 = .ok (.iadd, 1) := by decide +kernel
theorem d_Lw_law_527 : decode k_Lw_law.1 527 = .ok (.iaload, 1) := by decide +kernel
theorem d_Lw_law_528 : decode k_Lw_law.1 528 = .ok (.invokevirtual 88, 3) := by decide +kernel
theorem d_Lw_law_531 : decode k_Lw_law.1 531 = .ok (.istore 6, 2) := by decide +kernel
theorem d_Lw_law_533 : decode k_Lw_law.1 533 = .ok (.aload_n 2, 1) := by decide +kernel
theorem d_Lw_law_534 : decode k_Lw_law.1 534 = .ok (.invokevirtual 65, 3) := by decide +kernel
theorem d_Lw_law_537 : decode k_Lw_law.1 537 = .ok (.iload 5, 2) := by decide +kernel
theorem d_Lw_law_539 : decode k_Lw_law.1 539 = .ok (.if_icmp .eq 5, 3) := by decide +kernel
theorem d_Lw_law_542 : decode k_Lw_law.1 542 = .ok (.iconst 0, 1) := by decide +kernel
theorem d_Lw_law_543 : decode k_Lw_law.1 543 = .ok (.ireturn, 1) := by decide +kernel
theorem d_Lw_law_544 : decode k_Lw_law.1 544 = .ok (.iload 5, 2) := by decide +kernel
theorem d_Lw_law_546 : decode k_Lw_law.1 546 = .ok (.ifCond .ne 15, 3) := by decide +kernel
theorem d_Lw_law_549 : decode k_Lw_law.1 549 = .ok (.aload_n 3, 1) := by decide +kernel
theorem d_Lw_law_550 : decode k_Lw_law.1 550 = .ok (.iconst 0, 1) := by decide +kernel
theorem d_Lw_law_551 : decode k_Lw_law.1 551 = .ok (.laload, 1) := by decide +kernel
theorem d_Lw_law_552 : decode k_Lw_law.1 552 = .ok (.iload 6, 2) := by decide +kernel
theorem d_Lw_law_554 : decode k_Lw_law.1 554 = .ok (.i2l, 1) := by decide +kernel
theorem d_Lw_law_555 : decode k_Lw_law.1 555 = .ok (.lcmp, 1) := by decide +kernel
theorem d_Lw_law_556 : decode k_Lw_law.1 556 = .ok (.ifCond .eq 5, 3) := by decide +kernel
theorem d_Lw_law_559 : decode k_Lw_law.1 559 = .ok (.iconst 0, 1) := by decide +kernel
theorem d_Lw_law_560 : decode k_Lw_law.1 560 = .ok (.ireturn, 1) := by decide +kernel
theorem d_Lw_law_561 : decode k_Lw_law.1 561 = .ok (.goto 377, 3) := by decide +kernel
theorem d_Lw_law_564 : decode k_Lw_law.1 564 = .ok (.aload_n 1, 1) := by decide +kernel
theorem d_Lw_law_565 : decode k_Lw_law.1 565 = .ok (.invokevirtual 89, 3) := by decide +kernel
theorem d_Lw_law_568 : decode k_Lw_law.1 568 = .ok (.aload_n 2, 1) := by decide +kernel
theorem d_Lw_law_569 : decode k_Lw_law.1 569 = .ok (.invokevirtual 92, 3) := by decide +kernel
theorem d_Lw_law_572 : decode k_Lw_law.1 572 = .ok (.if_icmp .eq 366, 3) := by decide +kernel
theorem d_Lw_law_575 : decode k_Lw_law.1 575 = .ok (.iconst 0, 1) := by decide +kernel
theorem d_Lw_law_576 : decode k_Lw_law.1 576 = .ok (.ireturn, 1) := by decide +kernel
theorem d_Lw_law_577 : decode k_Lw_law.1 577 = .ok (.aload_n 1, 1) := by decide +kernel
theorem d_Lw_law_578 : decode k_Lw_law.1 578 = .ok (.aload_n 0, 1) := by decide +kernel
theorem d_Lw_law_579 : decode k_Lw_law.1 579 = .ok (.iload 4, 2) := by decide +kernel
theorem d_Lw_law_581 : decode k_Lw_law.1 581 = .ok (.iconst 1, 1) := by decide +kernel
theorem d_Lw_law_582 : decode k_Lw_law.1 582 = .ok (.iadd, 1) := by decide +kernel
theorem d_Lw_law_583 : decode k_Lw_law.1 583 = .ok (.iaload, 1) := by decide +kernel
theorem d_Lw_law_584 : decode k_Lw_law.1 584 = .ok (.aload_n 3, 1) := by decide +kernel
theorem d_Lw_law_585 : decode k_Lw_law.1 585 = .ok (.invokestatic 93, 3) := by decide +kernel
theorem d_Lw_law_588 : decode k_Lw_law.1 588 = .ok (.istore 5, 2) := by decide +kernel
theorem d_Lw_law_590 : decode k_Lw_law.1 590 = .ok (.aload_n 2, 1) := by decide +kernel
theorem d_Lw_law_591 : decode k_Lw_law.1 591 = .ok (.aload_n 0, 1) := by decide +kernel
theorem d_Lw_law_592 : decode k_Lw_law.1 592 = .ok (.iload 4, 2) := by decide +kernel
theorem d_Lw_law_594 : decode k_Lw_law.1 594 = .ok (.iconst 1, 1) := by decide +kernel
theorem d_Lw_law_595 : decode k_Lw_law.1 595 = .ok (.iadd, 1) := by decide +kernel
theorem d_Lw_law_596 : decode k_Lw_law.1 596 = .ok (.iaload, 1) := by decide +kernel
theorem d_Lw_law_597 : decode k_Lw_law.1 597 = .ok (.invokevirtual 95, 3) := by decide +kernel
theorem d_Lw_law_600 : decode k_Lw_law.1 600 = .ok (.istore 6, 2) := by decide +kernel
theorem d_Lw_law_602 : decode k_Lw_law.1 602 = .ok (.aload_n 2, 1) := by decide +kernel
theorem d_Lw_law_603 : decode k_Lw_law.1 603 = .ok (.invokevirtual 65, 3) := by decide +kernel
theorem d_Lw_law_606 : decode k_Lw_law.1 606 = .ok (.iload 5, 2) := by decide +kernel
theorem d_Lw_law_608 : decode k_Lw_law.1 608 = .ok (.if_icmp .eq 5, 3) := by decide +kernel
theorem d_Lw_law_611 : decode k_Lw_law.1 611 = .ok (.iconst 0, 1) := by decide +kernel
theorem d_Lw_law_612 : decode k_Lw_law.1 612 = .ok (.ireturn, 1) := by decide +kernel
theorem d_Lw_law_613 : decode k_Lw_law.1 613 = .ok (.iload 5, 2) := by decide +kernel
theorem d_Lw_law_615 : decode k_Lw_law.1 615 = .ok (.ifCond .ne 15, 3) := by decide +kernel
theorem d_Lw_law_618 : decode k_Lw_law.1 618 = .ok (.aload_n 3, 1) := by decide +kernel
theorem d_Lw_law_619 : decode k_Lw_law.1 619 = .ok (.iconst 0, 1) := by decide +kernel
theorem d_Lw_law_620 : decode k_Lw_law.1 620 = .ok (.laload, 1) := by decide +kernel
theorem d_Lw_law_621 : decode k_Lw_law.1 621 = .ok (.iload 6, 2) := by decide +kernel
theorem d_Lw_law_623 : decode k_Lw_law.1 623 = .ok (.i2l, 1) := by decide +kernel
theorem d_Lw_law_624 : decode k_Lw_law.1 624 = .ok (.lcmp, 1) := by decide +kernel
theorem d_Lw_law_625 : decode k_Lw_law.1 625 = .ok (.ifCond .eq 5, 3) := by decide +kernel
theorem d_Lw_law_628 : decode k_Lw_law.1 628 = .ok (.iconst 0, 1) := by decide +kernel
theorem d_Lw_law_629 : decode k_Lw_law.1 629 = .ok (.ireturn, 1) := by decide +kernel
theorem d_Lw_law_630 : decode k_Lw_law.1 630 = .ok (.goto 308, 3) := by decide +kernel
theorem d_Lw_law_633 : decode k_Lw_law.1 633 = .ok (.aload_n 1, 1) := by decide +kernel
theorem d_Lw_law_634 : decode k_Lw_law.1 634 = .ok (.aload_n 0, 1) := by decide +kernel
theorem d_Lw_law_635 : decode k_Lw_law.1 635 = .ok (.iload 4, 2) := by decide +kernel
theorem d_Lw_law_637 : decode k_Lw_law.1 637 = .ok (.iconst 1, 1) := by decide +kernel
theorem d_Lw_law_638 : decode k_Lw_law.1 638 = .ok (.iadd, 1) := by decide +kernel
theorem d_Lw_law_639 : decode k_Lw_law.1 639 = .ok (.iaload, 1) := by decide +kernel
theorem d_Lw_law_640 : decode k_Lw_law.1 640 = .ok (.aload_n 3, 1) := by decide +kernel
theorem d_Lw_law_641 : decode k_Lw_law.1 641 = .ok (.invokestatic 96, 3) := by decide +kernel
theorem d_Lw_law_644 : decode k_Lw_law.1 644 = .ok (.istore 5, 2) := by decide +kernel
theorem d_Lw_law_646 : decode k_Lw_law.1 646 = .ok (.aload_n 2, 1) := by decide +kernel
theorem d_Lw_law_647 : decode k_Lw_law.1 647 = .ok (.aload_n 0, 1) := by decide +kernel
theorem d_Lw_law_648 : decode k_Lw_law.1 648 = .ok (.iload 4, 2) := by decide +kernel
theorem d_Lw_law_650 : decode k_Lw_law.1 650 = .ok (.iconst 1, 1) := by decide +kernel
theorem d_Lw_law_651 : decode k_Lw_law.1 651 = .ok (.iadd, 1) := by decide +kernel
theorem d_Lw_law_652 : decode k_Lw_law.1 652 = .ok (.iaload, 1) := by decide +kernel
theorem d_Lw_law_653 : decode k_Lw_law.1 653 = .ok (.invokevirtual 98, 3) := by decide +kernel
theorem d_Lw_law_656 : decode k_Lw_law.1 656 = .ok (.istore 6, 2) := by decide +kernel
theorem d_Lw_law_658 : decode k_Lw_law.1 658 = .ok (.aload_n 2, 1) := by decide +kernel
theorem d_Lw_law_659 : decode k_Lw_law.1 659 = .ok (.invokevirtual 65, 3) := by decide +kernel
theorem d_Lw_law_662 : decode k_Lw_law.1 662 = .ok (.iload 5, 2) := by decide +kernel
theorem d_Lw_law_664 : decode k_Lw_law.1 664 = .ok (.if_icmp .eq 5, 3) := by decide +kernel
theorem d_Lw_law_667 : decode k_Lw_law.1 667 = .ok (.iconst 0, 1) := by decide +kernel
theorem d_Lw_law_668 : decode k_Lw_law.1 668 = .ok (.ireturn, 1) := by decide +kernel
theorem d_Lw_law_669 : decode k_Lw_law.1 669 = .ok (.iload 5, 2) := by decide +kernel
theorem d_Lw_law_671 : decode k_Lw_law.1 671 = .ok (.ifCond .ne 15, 3) := by decide +kernel
theorem d_Lw_law_674 : decode k_Lw_law.1 674 = .ok (.aload_n 3, 1) := by decide +kernel
theorem d_Lw_law_675 : decode k_Lw_law.1 675 = .ok (.iconst 0, 1) := by decide +kernel
theorem d_Lw_law_676 : decode k_Lw_law.1 676 = .ok (.laload, 1) := by decide +kernel
theorem d_Lw_law_677 : decode k_Lw_law.1 677 = .ok (.iload 6, 2) := by decide +kernel
theorem d_Lw_law_679 : decode k_Lw_law.1 679 = .ok (.i2l, 1) := by decide +kernel
theorem d_Lw_law_680 : decode k_Lw_law.1 680 = .ok (.lcmp, 1) := by decide +kernel
theorem d_Lw_law_681 : decode k_Lw_law.1 681 = .ok (.ifCond .eq 5, 3) := by decide +kernel
theorem d_Lw_law_684 : decode k_Lw_law.1 684 = .ok (.iconst 0, 1) := by decide +kernel
theorem d_Lw_law_685 : decode k_Lw_law.1 685 = .ok (.ireturn, 1) := by decide +kernel
theorem d_Lw_law_686 : decode k_Lw_law.1 686 = .ok (.goto 252, 3) := by decide +kernel
end
section
theorem d_Lw_law_689 : decode k_Lw_law.1 689 = .ok (.aload_n 1, 1) := by decide +kernel
theorem d_Lw_law_690 : decode k_Lw_law.1 690 = .ok (.invokevirtual 99, 3) := by decide +kernel
theorem d_Lw_law_693 : decode k_Lw_law.1 693 = .ok (.aload_n 2, 1) := by decide +kernel
theorem d_Lw_law_694 : decode k_Lw_law.1 694 = .ok (.invokevirtual 102, 3) := by decide +kernel
theorem d_Lw_law_697 : decode k_Lw_law.1 697 = .ok (.if_icmp .eq 241, 3) := by decide +kernel
theorem d_Lw_law_700 : decode k_Lw_law.1 700 = .ok (.iconst 0, 1) := by decide +kernel
theorem d_Lw_law_701 : decode k_Lw_law.1 701 = .ok (.ireturn, 1) := by decide +kernel
theorem d_Lw_law_702 : decode k_Lw_law.1 702 = .ok (.aload_n 1, 1) := by decide +kernel
theorem d_Lw_law_703 : decode k_Lw_law.1 703 = .ok (.aload_n 0, 1) := by decide +kernel
theorem d_Lw_law_704 : decode k_Lw_law.1 704 = .ok (.iload 4, 2) := by decide +kernel
theorem d_Lw_law_706 : decode k_Lw_law.1 706 = .ok (.iconst 1, 1) := by decide +kernel
theorem d_Lw_law_707 : decode k_Lw_law.1 707 = .ok (.iadd, 1) := by decide +kernel
theorem d_Lw_law_708 : decode k_Lw_law.1 708 = .ok (.iaload, 1) := by decide +kernel
theorem d_Lw_law_709 : decode k_Lw_law.1 709 = .ok (.aload_n 0, 1) := by decide +kernel
theorem d_Lw_law_710 : decode k_Lw_law.1 710 = .ok (.iload 4, 2) := by decide +kernel
theorem d_Lw_law_712 : decode k_Lw_law.1 712 = .ok (.iconst 2, 1) := by decide +kernel
theorem d_Lw_law_713 : decode k_Lw_law.1 713 = .ok (.iadd, 1) := by decide +kernel
theorem d_Lw_law_714 : decode k_Lw_law.1 714 = .ok (.iaload, 1) := by decide +kernel
theorem d_Lw_law_715 : decode k_Lw_law.1 715 = .ok (.aload_n 3, 1) := by decide +kernel
theorem d_Lw_law_716 : decode k_Lw_law.1 716 = .ok (.invokestatic 103, 3) := by decide +kernel
theorem d_Lw_law_719 : decode k_Lw_law.1 719 = .ok (.istore 5, 2) := by decide +kernel
theorem d_Lw_law_721 : decode k_Lw_law.1 721 = .ok (.aload_n 2, 1) := by decide +kernel
theorem d_Lw_law_722 : decode k_Lw_law.1 722 = .ok (.aload_n 0, 1) := by decide +kernel
theorem d_Lw_law_723 : decode k_Lw_law.1 723 = .ok (.iload 4, 2) := by decide +kernel
theorem d_Lw_law_725 : decode k_Lw_law.1 725 = .ok (.iconst 1, 1) := by decide +kernel
theorem d_Lw_law_726 : decode k_Lw_law.1 726 = .ok (.iadd, 1) := by decide +kernel
theorem d_Lw_law_727 : decode k_Lw_law.1 727 = .ok (.iaload, 1) := by decide +kernel
theorem d_Lw_law_728 : decode k_Lw_law.1 728 = .ok (.aload_n 0, 1) := by decide +kernel
theorem d_Lw_law_729 : decode k_Lw_law.1 729 = .ok (.iload 4, 2) := by decide +kernel
theorem d_Lw_law_731 : decode k_Lw_law.1 731 = .ok (.iconst 2, 1) := by decide +kernel
theorem d_Lw_law_732 : decode k_Lw_law.1 732 = .ok (.iadd, 1) := by decide +kernel
theorem d_Lw_law_733 : decode k_Lw_law.1 733 = .ok (.iaload, 1) := by decide +kernel
theorem d_Lw_law_734 : decode k_Lw_law.1 734 = .ok (.invokevirtual 105, 3) := by decide +kernel
theorem d_Lw_law_737 : decode k_Lw_law.1 737 = .ok (.istore 6, 2) := by decide +kernel
theorem d_Lw_law_739 : decode k_Lw_law.1 739 = .ok (.aload_n 2, 1) := by decide +kernel
theorem d_Lw_law_740 : decode k_Lw_law.1 740 = .ok (.invokevirtual 65, 3) := by decide +kernel
theorem d_Lw_law_743 : decode k_Lw_law.1 743 = .ok (.iload 5, 2) := by decide +kernel
theorem d_Lw_law_745 : decode k_Lw_law.1 745 = .ok (.if_icmp .eq 5, 3) := by decide +kernel
theorem d_Lw_law_748 : decode k_Lw_law.1 748 = .ok (.iconst 0, 1) := by decide +kernel
theorem d_Lw_law_749 : decode k_Lw_law.1 749 = .ok (.ireturn, 1) := by decide +kernel
theorem d_Lw_law_750 : decode k_Lw_law.1 750 = .ok (.iload 5, 2) := by decide +kernel
theorem d_Lw_law_752 : decode k_Lw_law.1 752 = .ok (.ifCond .ne 15, 3) := by decide +kernel
theorem d_Lw_law_755 : decode k_Lw_law.1 755 = .ok (.aload_n 3, 1) := by decide +kernel
theorem d_Lw_law_756 : decode k_Lw_law.1 756 = .ok (.iconst 0, 1) := by decide +kernel
theorem d_Lw_law_757 : decode k_Lw_law.1 757 = .ok (.laload, 1) := by decide +kernel
theorem d_Lw_law_758 : decode k_Lw_law.1 758 = .ok (.iload 6, 2) := by decide +kernel
theorem d_Lw_law_760 : decode k_Lw_law.1 760 = .ok (.i2l, 1) := by decide +kernel
theorem d_Lw_law_761 : decode k_Lw_law.1 761 = .ok (.lcmp, 1) := by decide +kernel
theorem d_Lw_law_762 : decode k_Lw_law.1 762 = .ok (.ifCond .eq 5, 3) := by decide +kernel
theorem d_Lw_law_765 : decode k_Lw_law.1 765 = .ok (.iconst 0, 1) := by decide +kernel
theorem d_Lw_law_766 : decode k_Lw_law.1 766 = .ok (.ireturn, 1) := by decide +kernel
theorem d_Lw_law_767 : decode k_Lw_law.1 767 = .ok (.goto 171, 3) := by decide +kernel
theorem d_Lw_law_770 : decode k_Lw_law.1 770 = .ok (.aload_n 1, 1) := by decide +kernel
theorem d_Lw_law_771 : decode k_Lw_law.1 771 = .ok (.aload_n 0, 1) := by decide +kernel
theorem d_Lw_law_772 : decode k_Lw_law.1 772 = .ok (.iload 4, 2) := by decide +kernel
theorem d_Lw_law_774 : decode k_Lw_law.1 774 = .ok (.iconst 1, 1) := by decide +kernel
theorem d_Lw_law_775 : decode k_Lw_law.1 775 = .ok (.iadd, 1) := by decide +kernel
theorem d_Lw_law_776 : decode k_Lw_law.1 776 = .ok (.iaload, 1) := by decide +kernel
theorem d_Lw_law_777 : decode k_Lw_law.1 777 = .ok (.aload_n 3, 1) := by decide +kernel
theorem d_Lw_law_778 : decode k_Lw_law.1 778 = .ok (.invokestatic 106, 3) := by decide +kernel
theorem d_Lw_law_781 : decode k_Lw_law.1 781 = .ok (.istore 5, 2) := by decide +kernel
theorem d_Lw_law_783 : decode k_Lw_law.1 783 = .ok (.aload_n 2, 1) := by decide +kernel
theorem d_Lw_law_784 : decode k_Lw_law.1 784 = .ok (.aload_n 0, 1) := by decide +kernel
theorem d_Lw_law_785 : decode k_Lw_law.1 785 = .ok (.iload 4, 2) := by decide +kernel
theorem d_Lw_law_787 : decode k_Lw_law.1 787 = .ok (.iconst 1, 1) := by decide +kernel
theorem d_Lw_law_788 : decode k_Lw_law.1 788 = .ok (.iadd, 1) := by decide +kernel
theorem d_Lw_law_789 : decode k_Lw_law.1 789 = .ok (.iaload, 1) := by decide +kernel
theorem d_Lw_law_790 : decode k_Lw_law.1 790 = .ok (.invokevirtual 108, 3) := by decide +kernel
theorem d_Lw_law_793 : decode k_Lw_law.1 793 = .ok (.istore 6, 2) := by decide +kernel
theorem d_Lw_law_795 : decode k_Lw_law.1 795 = .ok (.aload_n 2, 1) := by decide +kernel
theorem d_Lw_law_796 : decode k_Lw_law.1 796 = .ok (.invokevirtual 65, 3) := by decide +kernel
theorem d_Lw_law_799 : decode k_Lw_law.1 799 = .ok (.iload 5, 2) := by decide +kernel
theorem d_Lw_law_801 : decode k_Lw_law.1 801 = .ok (.if_icmp .eq 5, 3) := by decide +kernel
theorem d_Lw_law_804 : decode k_Lw_law.1 804 = .ok (.iconst 0, 1) := by decide +kernel
theorem d_Lw_law_805 : decode k_Lw_law.1 805 = .ok (.ireturn, 1) := by decide +kernel
theorem d_Lw_law_806 : decode k_Lw_law.1 806 = .ok (.iload 5, 2) := by decide +kernel
theorem d_Lw_law_808 : decode k_Lw_law.1 808 = .ok (.ifCond .ne 15, 3) := by decide +kernel
theorem d_Lw_law_811 : decode k_Lw_law.1 811 = .ok (.aload_n 3, 1) := by decide +kernel
theorem d_Lw_law_812 : decode k_Lw_law.1 812 = .ok (.iconst 0, 1) := by decide +kernel
theorem d_Lw_law_813 : decode k_Lw_law.1 813 = .ok (.laload, 1) := by decide +kernel
theorem d_Lw_law_814 : decode k_Lw_law.1 814 = .ok (.iload 6, 2) := by decide +kernel
theorem d_Lw_law_816 : decode k_Lw_law.1 816 = .ok (.i2l, 1) := by decide +kernel
theorem d_Lw_law_817 : decode k_Lw_law.1 817 = .ok (.lcmp, 1) := by decide +kernel
theorem d_Lw_law_818 : decode k_Lw_law.1 818 = .ok (.ifCond .eq 5, 3) := by decide +kernel
theorem d_Lw_law_821 : decode k_Lw_law.1 821 = .ok (.iconst 0, 1) := by decide +kernel
theorem d_Lw_law_822 : decode k_Lw_law.1 822 = .ok (.ireturn, 1) := by decide +kernel
theorem d_Lw_law_823 : decode k_Lw_law.1 823 = .ok (.goto 115, 3) := by decide +kernel
theorem d_Lw_law_826 : decode k_Lw_law.1 826 = .ok (.aload_n 1, 1) := by decide +kernel
theorem d_Lw_law_827 : decode k_Lw_law.1 827 = .ok (.aload_n 0, 1) := by decide +kernel
theorem d_Lw_law_828 : decode k_Lw_law.1 828 = .ok (.iload 4, 2) := by decide +kernel
theorem d_Lw_law_830 : decode k_Lw_law.1 830 = .ok (.iconst 1, 1) := by decide +kernel
theorem d_Lw_law_831 : decode k_Lw_law.1 831 = .ok (.iadd, 1) := by decide +kernel
theorem d_Lw_law_832 : decode k_Lw_law.1 832 = .ok (.iaload, 1) := by decide +kernel
theorem d_Lw_law_833 : decode k_Lw_law.1 833 = .ok (.aload_n 3, 1) := by decide +kernel
theorem d_Lw_law_834 : decode k_Lw_law.1 834 = .ok (.invokestatic 109, 3) := by decide +kernel
theorem d_Lw_law_837 : decode k_Lw_law.1 837 = .ok (.istore 5, 2) := by decide +kernel
theorem d_Lw_law_839 : decode k_Lw_law.1 839 = .ok (.aload_n 2, 1) := by decide +kernel
theorem d_Lw_law_840 : decode k_Lw_law.1 840 = .ok (.aload_n 0, 1) := by decide +kernel
theorem d_Lw_law_841 : decode k_Lw_law.1 841 = .ok (.iload 4, 2) := by decide +kernel
theorem d_Lw_law_843 : decode k_Lw_law.1 843 = .ok (.iconst 1, 1) := by decide +kernel
theorem d_Lw_law_844 : decode k_Lw_law.1 844 = .ok (.iadd, 1) := by decide +kernel
theorem d_Lw_law_845 : decode k_Lw_law.1 845 = .ok (.iaload, 1) := by decide +kernel
theorem d_Lw_law_846 : decode k_Lw_law.1 846 = .ok (.invokevirtual 111, 3) := by decide +kernel
theorem d_Lw_law_849 : decode k_Lw_law.1 849 = .ok (.istore 6, 2) := by decide +kernel
theorem d_Lw_law_851 : decode k_Lw_law.1 851 = .ok (.aload_n 2, 1) := by decide +kernel
theorem d_Lw_law_852 : decode k_Lw_law.1 852 = .ok (.invokevirtual 65, 3) := by decide +kernel
theorem d_Lw_law_855 : decode k_Lw_law.1 855 = .ok (.iload 5, 2) := by decide +kernel
theorem d_Lw_law_857 : decode k_Lw_law.1 857 = .ok (.if_icmp .eq 5, 3) := by decide +kernel
theorem d_Lw_law_860 : decode k_Lw_law.1 860 = .ok (.iconst 0, 1) := by decide +kernel
theorem d_Lw_law_861 : decode k_Lw_law.1 861 = .ok (.ireturn, 1) := by decide +kernel
theorem d_Lw_law_862 : decode k_Lw_law.1 862 = .ok (.iload 5, 2) := by decide +kernel
theorem d_Lw_law_864 : decode k_Lw_law.1 864 = .ok (.ifCond .ne 15, 3) := by decide +kernel
theorem d_Lw_law_867 : decode k_Lw_law.1 867 = .ok (.aload_n 3, 1) := by decide +kernel
theorem d_Lw_law_868 : decode k_Lw_law.1 868 = .ok (.iconst 0, 1) := by decide +kernel
theorem d_Lw_law_869 : decode k_Lw_law.1 869 = .ok (.laload, 1) := by decide +kernel
theorem d_Lw_law_870 : decode k_Lw_law.1 870 = .ok (.iload 6, 2) := by decide +kernel
theorem d_Lw_law_872 : decode k_Lw_law.1 872 = .ok (.i2l, 1) := by decide +kernel
theorem d_Lw_law_873 : decode k_Lw_law.1 873 = .ok (.lcmp, 1) := by decide +kernel
theorem d_Lw_law_874 : decode k_Lw_law.1 874 = .ok (.ifCond .eq 5, 3) := by decide +kernel
theorem d_Lw_law_877 : decode k_Lw_law.1 877 = .ok (.iconst 0, 1) := by decide +kernel
end
section
theorem d_Lw_law_878 : decode k_Lw_law.1 878 = .ok (.ireturn, 1) := by decide +kernel
theorem d_Lw_law_879 : decode k_Lw_law.1 879 = .ok (.goto 59, 3) := by decide +kernel
theorem d_Lw_law_882 : decode k_Lw_law.1 882 = .ok (.aload_n 1, 1) := by decide +kernel
theorem d_Lw_law_883 : decode k_Lw_law.1 883 = .ok (.aload_n 0, 1) := by decide +kernel
theorem d_Lw_law_884 : decode k_Lw_law.1 884 = .ok (.iload 4, 2) := by decide +kernel
theorem d_Lw_law_886 : decode k_Lw_law.1 886 = .ok (.iconst 1, 1) := by decide +kernel
theorem d_Lw_law_887 : decode k_Lw_law.1 887 = .ok (.iadd, 1) := by decide +kernel
theorem d_Lw_law_888 : decode k_Lw_law.1 888 = .ok (.iaload, 1) := by decide +kernel
theorem d_Lw_law_889 : decode k_Lw_law.1 889 = .ok (.aload_n 3, 1) := by decide +kernel
theorem d_Lw_law_890 : decode k_Lw_law.1 890 = .ok (.invokestatic 112, 3) := by decide +kernel
theorem d_Lw_law_893 : decode k_Lw_law.1 893 = .ok (.istore 5, 2) := by decide +kernel
theorem d_Lw_law_895 : decode k_Lw_law.1 895 = .ok (.aload_n 2, 1) := by decide +kernel
theorem d_Lw_law_896 : decode k_Lw_law.1 896 = .ok (.aload_n 0, 1) := by decide +kernel
theorem d_Lw_law_897 : decode k_Lw_law.1 897 = .ok (.iload 4, 2) := by decide +kernel
theorem d_Lw_law_899 : decode k_Lw_law.1 899 = .ok (.iconst 1, 1) := by decide +kernel
theorem d_Lw_law_900 : decode k_Lw_law.1 900 = .ok (.iadd, 1) := by decide +kernel
theorem d_Lw_law_901 : decode k_Lw_law.1 901 = .ok (.iaload, 1) := by decide +kernel
theorem d_Lw_law_902 : decode k_Lw_law.1 902 = .ok (.invokevirtual 114, 3) := by decide +kernel
theorem d_Lw_law_905 : decode k_Lw_law.1 905 = .ok (.istore 6, 2) := by decide +kernel
theorem d_Lw_law_907 : decode k_Lw_law.1 907 = .ok (.aload_n 2, 1) := by decide +kernel
theorem d_Lw_law_908 : decode k_Lw_law.1 908 = .ok (.invokevirtual 65, 3) := by decide +kernel
theorem d_Lw_law_911 : decode k_Lw_law.1 911 = .ok (.iload 5, 2) := by decide +kernel
theorem d_Lw_law_913 : decode k_Lw_law.1 913 = .ok (.if_icmp .eq 5, 3) := by decide +kernel
theorem d_Lw_law_916 : decode k_Lw_law.1 916 = .ok (.iconst 0, 1) := by decide +kernel
theorem d_Lw_law_917 : decode k_Lw_law.1 917 = .ok (.ireturn, 1) := by decide +kernel
theorem d_Lw_law_918 : decode k_Lw_law.1 918 = .ok (.iload 5, 2) := by decide +kernel
theorem d_Lw_law_920 : decode k_Lw_law.1 920 = .ok (.ifCond .ne 15, 3) := by decide +kernel
theorem d_Lw_law_923 : decode k_Lw_law.1 923 = .ok (.aload_n 3, 1) := by decide +kernel
theorem d_Lw_law_924 : decode k_Lw_law.1 924 = .ok (.iconst 0, 1) := by decide +kernel
theorem d_Lw_law_925 : decode k_Lw_law.1 925 = .ok (.laload, 1) := by decide +kernel
theorem d_Lw_law_926 : decode k_Lw_law.1 926 = .ok (.iload 6, 2) := by decide +kernel
theorem d_Lw_law_928 : decode k_Lw_law.1 928 = .ok (.i2l, 1) := by decide +kernel
theorem d_Lw_law_929 : decode k_Lw_law.1 929 = .ok (.lcmp, 1) := by decide +kernel
theorem d_Lw_law_930 : decode k_Lw_law.1 930 = .ok (.ifCond .eq 5, 3) := by decide +kernel
theorem d_Lw_law_933 : decode k_Lw_law.1 933 = .ok (.iconst 0, 1) := by decide +kernel
theorem d_Lw_law_934 : decode k_Lw_law.1 934 = .ok (.ireturn, 1) := by decide +kernel
theorem d_Lw_law_935 : decode k_Lw_law.1 935 = .ok (.goto 3, 3) := by decide +kernel
theorem d_Lw_law_938 : decode k_Lw_law.1 938 = .ok (.iinc 4 5, 3) := by decide +kernel
theorem d_Lw_law_941 : decode k_Lw_law.1 941 = .ok (.goto (-918), 3) := by decide +kernel
theorem d_Lw_law_944 : decode k_Lw_law.1 944 = .ok (.iconst 1, 1) := by decide +kernel
theorem d_Lw_law_945 : decode k_Lw_law.1 945 = .ok (.ireturn, 1) := by decide +kernel
end
section
theorem d_Md_init_0 : decode k_Md_init.1 0 = .ok (.aload_n 0, 1) := by decide +kernel
theorem d_Md_init_1 : decode k_Md_init.1 1 = .ok (.invokespecial 1, 3) := by decide +kernel
theorem d_Md_init_4 : decode k_Md_init.1 4 = .ok (.aload_n 0, 1) := by decide +kernel
theorem d_Md_init_5 : decode k_Md_init.1 5 = .ok (.bipush 16, 2) := by decide +kernel
theorem d_Md_init_7 : decode k_Md_init.1 7 = .ok (.newarray .boolean, 2) := by decide +kernel
theorem d_Md_init_9 : decode k_Md_init.1 9 = .ok (.putfield 7, 3) := by decide +kernel
theorem d_Md_init_12 : decode k_Md_init.1 12 = .ok (.aload_n 0, 1) := by decide +kernel
theorem d_Md_init_13 : decode k_Md_init.1 13 = .ok (.bipush 16, 2) := by decide +kernel
theorem d_Md_init_15 : decode k_Md_init.1 15 = .ok (.newarray .boolean, 2) := by decide +kernel
theorem d_Md_init_17 : decode k_Md_init.1 17 = .ok (.putfield 13, 3) := by decide +kernel
theorem d_Md_init_20 : decode k_Md_init.1 20 = .ok (.aload_n 0, 1) := by decide +kernel
theorem d_Md_init_21 : decode k_Md_init.1 21 = .ok (.bipush 16, 2) := by decide +kernel
theorem d_Md_init_23 : decode k_Md_init.1 23 = .ok (.newarray .int, 2) := by decide +kernel
theorem d_Md_init_25 : decode k_Md_init.1 25 = .ok (.putfield 16, 3) := by decide +kernel
theorem d_Md_init_28 : decode k_Md_init.1 28 = .ok (.aload_n 0, 1) := by decide +kernel
theorem d_Md_init_29 : decode k_Md_init.1 29 = .ok (.sipush 960, 3) := by decide +kernel
theorem d_Md_init_32 : decode k_Md_init.1 32 = .ok (.newarray .int, 2) := by decide +kernel
theorem d_Md_init_34 : decode k_Md_init.1 34 = .ok (.putfield 20, 3) := by decide +kernel
theorem d_Md_init_37 : decode k_Md_init.1 37 = .ok (.aload_n 0, 1) := by decide +kernel
theorem d_Md_init_38 : decode k_Md_init.1 38 = .ok (.bipush 16, 2) := by decide +kernel
theorem d_Md_init_40 : decode k_Md_init.1 40 = .ok (.newarray .int, 2) := by decide +kernel
theorem d_Md_init_42 : decode k_Md_init.1 42 = .ok (.putfield 23, 3) := by decide +kernel
theorem d_Md_init_45 : decode k_Md_init.1 45 = .ok (.aload_n 0, 1) := by decide +kernel
theorem d_Md_init_46 : decode k_Md_init.1 46 = .ok (.bipush 16, 2) := by decide +kernel
theorem d_Md_init_48 : decode k_Md_init.1 48 = .ok (.newarray .boolean, 2) := by decide +kernel
theorem d_Md_init_50 : decode k_Md_init.1 50 = .ok (.putfield 26, 3) := by decide +kernel
theorem d_Md_init_53 : decode k_Md_init.1 53 = .ok (.aload_n 0, 1) := by decide +kernel
theorem d_Md_init_54 : decode k_Md_init.1 54 = .ok (.bipush 8, 2) := by decide +kernel
theorem d_Md_init_56 : decode k_Md_init.1 56 = .ok (.newarray .int, 2) := by decide +kernel
theorem d_Md_init_58 : decode k_Md_init.1 58 = .ok (.putfield 29, 3) := by decide +kernel
theorem d_Md_init_61 : decode k_Md_init.1 61 = .ok (.aload_n 0, 1) := by decide +kernel
theorem d_Md_init_62 : decode k_Md_init.1 62 = .ok (.bipush 8, 2) := by decide +kernel
theorem d_Md_init_64 : decode k_Md_init.1 64 = .ok (.newarray .int, 2) := by decide +kernel
theorem d_Md_init_66 : decode k_Md_init.1 66 = .ok (.putfield 32, 3) := by decide +kernel
theorem d_Md_init_69 : decode k_Md_init.1 69 = .ok (.aload_n 0, 1) := by decide +kernel
theorem d_Md_init_70 : decode k_Md_init.1 70 = .ok (.bipush 16, 2) := by decide +kernel
theorem d_Md_init_72 : decode k_Md_init.1 72 = .ok (.newarray .boolean, 2) := by decide +kernel
theorem d_Md_init_74 : decode k_Md_init.1 74 = .ok (.putfield 35, 3) := by decide +kernel
theorem d_Md_init_77 : decode k_Md_init.1 77 = .ok (.aload_n 0, 1) := by decide +kernel
theorem d_Md_init_78 : decode k_Md_init.1 78 = .ok (.bipush 16, 2) := by decide +kernel
theorem d_Md_init_80 : decode k_Md_init.1 80 = .ok (.newarray .int, 2) := by decide +kernel
theorem d_Md_init_82 : decode k_Md_init.1 82 = .ok (.putfield 38, 3) := by decide +kernel
theorem d_Md_init_85 : decode k_Md_init.1 85 = .ok (.aload_n 0, 1) := by decide +kernel
theorem d_Md_init_86 : decode k_Md_init.1 86 = .ok (.sipush 480, 3) := by decide +kernel
theorem d_Md_init_89 : decode k_Md_init.1 89 = .ok (.newarray .long, 2) := by decide +kernel
theorem d_Md_init_91 : decode k_Md_init.1 91 = .ok (.putfield 41, 3) := by decide +kernel
theorem d_Md_init_94 : decode k_Md_init.1 94 = .ok (.aload_n 0, 1) := by decide +kernel
theorem d_Md_init_95 : decode k_Md_init.1 95 = .ok (.sipush 480, 3) := by decide +kernel
theorem d_Md_init_98 : decode k_Md_init.1 98 = .ok (.newarray .int, 2) := by decide +kernel
theorem d_Md_init_100 : decode k_Md_init.1 100 = .ok (.putfield 45, 3) := by decide +kernel
theorem d_Md_init_103 : decode k_Md_init.1 103 = .ok (.aload_n 0, 1) := by decide +kernel
theorem d_Md_init_104 : decode k_Md_init.1 104 = .ok (.sipush 480, 3) := by decide +kernel
theorem d_Md_init_107 : decode k_Md_init.1 107 = .ok (.newarray .int, 2) := by decide +kernel
theorem d_Md_init_109 : decode k_Md_init.1 109 = .ok (.putfield 48, 3) := by decide +kernel
theorem d_Md_init_112 : decode k_Md_init.1 112 = .ok (.aload_n 0, 1) := by decide +kernel
theorem d_Md_init_113 : decode k_Md_init.1 113 = .ok (.bipush 40, 2) := by decide +kernel
theorem d_Md_init_115 : decode k_Md_init.1 115 = .ok (.newarray .int, 2) := by decide +kernel
theorem d_Md_init_117 : decode k_Md_init.1 117 = .ok (.putfield 51, 3) := by decide +kernel
theorem d_Md_init_120 : decode k_Md_init.1 120 = .ok (.aload_n 0, 1) := by decide +kernel
theorem d_Md_init_121 : decode k_Md_init.1 121 = .ok (.bipush 40, 2) := by decide +kernel
theorem d_Md_init_123 : decode k_Md_init.1 123 = .ok (.newarray .int, 2) := by decide +kernel
theorem d_Md_init_125 : decode k_Md_init.1 125 = .ok (.putfield 54, 3) := by decide +kernel
theorem d_Md_init_128 : decode k_Md_init.1 128 = .ok (.aload_n 0, 1) := by decide +kernel
theorem d_Md_init_129 : decode k_Md_init.1 129 = .ok (.bipush 40, 2) := by decide +kernel
theorem d_Md_init_131 : decode k_Md_init.1 131 = .ok (.newarray .boolean, 2) := by decide +kernel
theorem d_Md_init_133 : decode k_Md_init.1 133 = .ok (.putfield 57, 3) := by decide +kernel
theorem d_Md_init_136 : decode k_Md_init.1 136 = .ok (.aload_n 0, 1) := by decide +kernel
theorem d_Md_init_137 : decode k_Md_init.1 137 = .ok (.bipush 40, 2) := by decide +kernel
theorem d_Md_init_139 : decode k_Md_init.1 139 = .ok (.newarray .int, 2) := by decide +kernel
theorem d_Md_init_141 : decode k_Md_init.1 141 = .ok (.putfield 60, 3) := by decide +kernel
theorem d_Md_init_144 : decode k_Md_init.1 144 = .ok (.aload_n 0, 1) := by decide +kernel
theorem d_Md_init_145 : decode k_Md_init.1 145 = .ok (.bipush 40, 2) := by decide +kernel
theorem d_Md_init_147 : decode k_Md_init.1 147 = .ok (.newarray .int, 2) := by decide +kernel
theorem d_Md_init_149 : decode k_Md_init.1 149 = .ok (.putfield 63, 3) := by decide +kernel
theorem d_Md_init_152 : decode k_Md_init.1 152 = .ok (.aload_n 0, 1) := by decide +kernel
theorem d_Md_init_153 : decode k_Md_init.1 153 = .ok (.bipush 40, 2) := by decide +kernel
theorem d_Md_init_155 : decode k_Md_init.1 155 = .ok (.newarray .int, 2) := by decide +kernel
theorem d_Md_init_157 : decode k_Md_init.1 157 = .ok (.putfield 66, 3) := by decide +kernel
theorem d_Md_init_160 : decode k_Md_init.1 160 = .ok (.aload_n 0, 1) := by decide +kernel
theorem d_Md_init_161 : decode k_Md_init.1 161 = .ok (.bipush 60, 2) := by decide +kernel
theorem d_Md_init_163 : decode k_Md_init.1 163 = .ok (.newarray .long, 2) := by decide +kernel
theorem d_Md_init_165 : decode k_Md_init.1 165 = .ok (.putfield 69, 3) := by decide +kernel
theorem d_Md_init_168 : decode k_Md_init.1 168 = .ok (.aload_n 0, 1) := by decide +kernel
theorem d_Md_init_169 : decode k_Md_init.1 169 = .ok (.bipush 60, 2) := by decide +kernel
theorem d_Md_init_171 : decode k_Md_init.1 171 = .ok (.newarray .int, 2) := by decide +kernel
theorem d_Md_init_173 : decode k_Md_init.1 173 = .ok (.putfield 72, 3) := by decide +kernel
theorem d_Md_init_176 : decode k_Md_init.1 176 = .ok (.aload_n 0, 1) := by decide +kernel
theorem d_Md_init_177 : decode k_Md_init.1 177 = .ok (.iconst (-1), 1) := by decide +kernel
theorem d_Md_init_178 : decode k_Md_init.1 178 = .ok (.putfield 75, 3) := by decide +kernel
theorem d_Md_init_181 : decode k_Md_init.1 181 = .ok (.aload_n 0, 1) := by decide +kernel
theorem d_Md_init_182 : decode k_Md_init.1 182 = .ok (.bipush 16, 2) := by decide +kernel
theorem d_Md_init_184 : decode k_Md_init.1 184 = .ok (.newarray .int, 2) := by decide +kernel
theorem d_Md_init_186 : decode k_Md_init.1 186 = .ok (.putfield 79, 3) := by decide +kernel
theorem d_Md_init_189 : decode k_Md_init.1 189 = .ok (.aload_n 0, 1) := by decide +kernel
theorem d_Md_init_190 : decode k_Md_init.1 190 = .ok (.bipush 16, 2) := by decide +kernel
theorem d_Md_init_192 : decode k_Md_init.1 192 = .ok (.newarray .int, 2) := by decide +kernel
theorem d_Md_init_194 : decode k_Md_init.1 194 = .ok (.putfield 82, 3) := by decide +kernel
theorem d_Md_init_197 : decode k_Md_init.1 197 = .ok (.aload_n 0, 1) := by decide +kernel
theorem d_Md_init_198 : decode k_Md_init.1 198 = .ok (.getfield 7, 3) := by decide +kernel
theorem d_Md_init_201 : decode k_Md_init.1 201 = .ok (.iconst 0, 1) := by decide +kernel
theorem d_Md_init_202 : decode k_Md_init.1 202 = .ok (.iconst 1, 1) := by decide +kernel
theorem d_Md_init_203 : decode k_Md_init.1 203 = .ok (.bastore, 1) := by decide +kernel
theorem d_Md_init_204 : decode k_Md_init.1 204 = .ok (.aload_n 0, 1) := by decide +kernel
theorem d_Md_init_205 : decode k_Md_init.1 205 = .ok (.getfield 13, 3) := by decide +kernel
theorem d_Md_init_208 : decode k_Md_init.1 208 = .ok (.iconst 0, 1) := by decide +kernel
theorem d_Md_init_209 : decode k_Md_init.1 209 = .ok (.iconst 1, 1) := by decide +kernel
theorem d_Md_init_210 : decode k_Md_init.1 210 = .ok (.bastore, 1) := by decide +kernel
theorem d_Md_init_211 : decode k_Md_init.1 211 = .ok (.aload_n 0, 1) := by decide +kernel
theorem d_Md_init_212 : decode k_Md_init.1 212 = .ok (.getfield 16, 3) := by decide +kernel
theorem d_Md_init_215 : decode k_Md_init.1 215 = .ok (.iconst 0, 1) := by decide +kernel
theorem d_Md_init_216 : decode k_Md_init.1 216 = .ok (.iconst (-1), 1) := by decide +kernel
theorem d_Md_init_217 : decode k_Md_init.1 217 = .ok (.iastore, 1) := by decide +kernel
theorem d_Md_init_218 : decode k_Md_init.1 218 = .ok (.return_, 1) := by decide +kernel
theorem d_Md_thrown_0 : decode k_Md_thrown.1 0 = .ok (.aload_n 0, 1) := by decide +kernel
theorem d_Md_thrown_1 : decode k_Md_thrown.1 1 = .ok (.getfield 85, 3) := by decide +kernel
theorem d_Md_thrown_4 : decode k_Md_thrown.1 4 = .ok (.ireturn, 1) := by decide +kernel
theorem d_Md_make_0 : decode k_Md_make.1 0 = .ok (.aload_n 0, 1) := by decide +kernel
theorem d_Md_make_1 : decode k_Md_make.1 1 = .ok (.iconst 0, 1) := by decide +kernel
theorem d_Md_make_2 : decode k_Md_make.1 2 = .ok (.putfield 85, 3) := by decide +kernel
theorem d_Md_make_5 : decode k_Md_make.1 5 = .ok (.iload_n 1, 1) := by decide +kernel
theorem d_Md_make_6 : decode k_Md_make.1 6 = .ok (.iconst 1, 1) := by decide +kernel
theorem d_Md_make_7 : decode k_Md_make.1 7 = .ok (.bipush 15, 2) := by decide +kernel
theorem d_Md_make_9 : decode k_Md_make.1 9 = .ok (.invokestatic 88, 3) := by decide +kernel
theorem d_Md_make_12 : decode k_Md_make.1 12 = .ok (.ifCond .eq 13, 3) := by decide +kernel
theorem d_Md_make_15 : decode k_Md_make.1 15 = .ok (.iload_n 2, 1) := by decide +kernel
theorem d_Md_make_16 : decode k_Md_make.1 16 = .ok (.iconst 0, 1) := by decide +kernel
theorem d_Md_make_17 : decode k_Md_make.1 17 = .ok (.bipush 15, 2) := by decide +kernel
theorem d_Md_make_19 : decode k_Md_make.1 19 = .ok (.invokestatic 88, 3) := by decide +kernel
theorem d_Md_make_22 : decode k_Md_make.1 22 = .ok (.ifCond .ne 9, 3) := by decide +kernel
theorem d_Md_make_25 : decode k_Md_make.1 25 = .ok (.aload_n 0, 1) := by decide +kernel
theorem d_Md_make_26 : decode k_Md_make.1 26 = .ok (.iconst 1, 1) := by decide +kernel
theorem d_Md_make_27 : decode k_Md_make.1 27 = .ok (.invokevirtual 107, 3) := by decide +kernel
theorem d_Md_make_30 : decode k_Md_make.1 30 = .ok (.ireturn, 1) := by decide +kernel
theorem d_Md_make_31 : decode k_Md_make.1 31 = .ok (.aload_n 0, 1) := by decide +kernel
theorem d_Md_make_32 : decode k_Md_make.1 32 = .ok (.getfield 7, 3) := by decide +kernel
theorem d_Md_make_35 : decode k_Md_make.1 35 = .ok (.iload_n 1, 1) := by decide +kernel
theorem d_Md_make_36 : decode k_Md_make.1 36 = .ok (.baload, 1) := by decide +kernel
theorem d_Md_make_37 : decode k_Md_make.1 37 = .ok (.ifCond .ne 11, 3) := by decide +kernel
theorem d_Md_make_40 : decode k_Md_make.1 40 = .ok (.aload_n 0, 1) := by decide +kernel
theorem d_Md_make_41 : decode k_Md_make.1 41 = .ok (.iload_n 2, 1) := by decide +kernel
theorem d_Md_make_42 : decode k_Md_make.1 42 = .ok (.invokevirtual 111, 3) := by decide +kernel
theorem d_Md_make_45 : decode k_Md_make.1 45 = .ok (.ifCond .ne 9, 3) := by decide +kernel
theorem d_Md_make_48 : decode k_Md_make.1 48 = .ok (.aload_n 0, 1) := by decide +kernel
theorem d_Md_make_49 : decode k_Md_make.1 49 = .ok (.iconst 2, 1) := by decide +kernel
theorem d_Md_make_50 : decode k_Md_make.1 50 = .ok (.invokevirtual 107, 3) := by decide +kernel
theorem d_Md_make_53 : decode k_Md_make.1 53 = .ok (.ireturn, 1) := by decide +kernel
theorem d_Md_make_54 : decode k_Md_make.1 54 = .ok (.aload_n 0, 1) := by decide +kernel
theorem d_Md_make_55 : decode k_Md_make.1 55 = .ok (.getfield 7, 3) := by decide +kernel
theorem d_Md_make_58 : decode k_Md_make.1 58 = .ok (.iload_n 1, 1) := by decide +kernel
theorem d_Md_make_59 : decode k_Md_make.1 59 = .ok (.iconst 1, 1) := by decide +kernel
theorem d_Md_make_60 : decode k_Md_make.1 60 = .ok (.bastore, 1) := by decide +kernel
theorem d_Md_make_61 : decode k_Md_make.1 61 = .ok (.aload_n 0, 1) := by decide +kernel
theorem d_Md_make_62 : decode k_Md_make.1 62 = .ok (.getfield 13, 3) := by decide +kernel
theorem d_Md_make_65 : decode k_Md_make.1 65 = .ok (.iload_n 1, 1) := by decide +kernel
theorem d_Md_make_66 : decode k_Md_make.1 66 = .ok (.iload_n 3, 1) := by decide +kernel
theorem d_Md_make_67 : decode k_Md_make.1 67 = .ok (.bastore, 1) := by decide +kernel
theorem d_Md_make_68 : decode k_Md_make.1 68 = .ok (.aload_n 0, 1) := by decide +kernel
theorem d_Md_make_69 : decode k_Md_make.1 69 = .ok (.getfield 16, 3) := by decide +kernel
theorem d_Md_make_72 : decode k_Md_make.1 72 = .ok (.iload_n 1, 1) := by decide +kernel
theorem d_Md_make_73 : decode k_Md_make.1 73 = .ok (.iload_n 2, 1) := by decide +kernel
theorem d_Md_make_74 : decode k_Md_make.1 74 = .ok (.iastore, 1) := by decide +kernel
theorem d_Md_make_75 : decode k_Md_make.1 75 = .ok (.aload_n 0, 1) := by decide +kernel
theorem d_Md_make_76 : decode k_Md_make.1 76 = .ok (.getfield 23, 3) := by decide +kernel
theorem d_Md_make_79 : decode k_Md_make.1 79 = .ok (.iload_n 1, 1) := by decide +kernel
theorem d_Md_make_80 : decode k_Md_make.1 80 = .ok (.iconst 0, 1) := by decide +kernel
theorem d_Md_make_81 : decode k_Md_make.1 81 = .ok (.iastore, 1) := by decide +kernel
theorem d_Md_make_82 : decode k_Md_make.1 82 = .ok (.iload_n 3, 1) := by decide +kernel
theorem d_Md_make_83 : decode k_Md_make.1 83 = .ok (.ifCond .ne 9, 3) := by decide +kernel
theorem d_Md_make_86 : decode k_Md_make.1 86 = .ok (.aload_n 0, 1) := by decide +kernel
theorem d_Md_make_87 : decode k_Md_make.1 87 = .ok (.iconst 1, 1) := by decide +kernel
theorem d_Md_make_88 : decode k_Md_make.1 88 = .ok (.iload_n 1, 1) := by decide +kernel
theorem d_Md_make_89 : decode k_Md_make.1 89 = .ok (.invokevirtual 115, 3) := by decide +kernel
theorem d_Md_make_92 : decode k_Md_make.1 92 = .ok (.iconst 1, 1) := by decide +kernel
theorem d_Md_make_93 : decode k_Md_make.1 93 = .ok (.ireturn, 1) := by decide +kernel
theorem d_Md_in_0 : decode k_Md_in.1 0 = .ok (.iload_n 0, 1) := by decide +kernel
theorem d_Md_in_1 : decode k_Md_in.1 1 = .ok (.iload_n 1, 1) := by decide +kernel
theorem d_Md_in_2 : decode k_Md_in.1 2 = .ok (.if_icmp .lt 12, 3) := by decide +kernel
theorem d_Md_in_5 : decode k_Md_in.1 5 = .ok (.iload_n 0, 1) := by decide +kernel
theorem d_Md_in_6 : decode k_Md_in.1 6 = .ok (.iload_n 2, 1) := by decide +kernel
theorem d_Md_in_7 : decode k_Md_in.1 7 = .ok (.if_icmp .gt 7, 3) := by decide +kernel
theorem d_Md_in_10 : decode k_Md_in.1 10 = .ok (.iconst 1, 1) := by decide +kernel
theorem d_Md_in_11 : decode k_Md_in.1 11 = .ok (.goto 4, 3) := by decide +kernel
theorem d_Md_in_14 : decode k_Md_in.1 14 = .ok (.iconst 0, 1) := by decide +kernel
theorem d_Md_in_15 : decode k_Md_in.1 15 = .ok (.ireturn, 1) := by decide +kernel
theorem d_Md_raise_0 : decode k_Md_raise.1 0 = .ok (.aload_n 0, 1) := by decide +kernel
theorem d_Md_raise_1 : decode k_Md_raise.1 1 = .ok (.iload_n 1, 1) := by decide +kernel
theorem d_Md_raise_2 : decode k_Md_raise.1 2 = .ok (.putfield 85, 3) := by decide +kernel
theorem d_Md_raise_5 : decode k_Md_raise.1 5 = .ok (.iconst 0, 1) := by decide +kernel
theorem d_Md_raise_6 : decode k_Md_raise.1 6 = .ok (.ireturn, 1) := by decide +kernel
theorem d_Md_isFolder_0 : decode k_Md_isFolder.1 0 = .ok (.iload_n 1, 1) := by decide +kernel
theorem d_Md_isFolder_1 : decode k_Md_isFolder.1 1 = .ok (.iconst 0, 1) := by decide +kernel
theorem d_Md_isFolder_2 : decode k_Md_isFolder.1 2 = .ok (.bipush 15, 2) := by decide +kernel
theorem d_Md_isFolder_4 : decode k_Md_isFolder.1 4 = .ok (.invokestatic 88, 3) := by decide +kernel
theorem d_Md_isFolder_7 : decode k_Md_isFolder.1 7 = .ok (.ifCond .eq 25, 3) := by decide +kernel
theorem d_Md_isFolder_10 : decode k_Md_isFolder.1 10 = .ok (.aload_n 0, 1) := by decide +kernel
theorem d_Md_isFolder_11 : decode k_Md_isFolder.1 11 = .ok (.getfield 7, 3) := by decide +kernel
theorem d_Md_isFolder_14 : decode k_Md_isFolder.1 14 = .ok (.iload_n 1, 1) := by decide +kernel
theorem d_Md_isFolder_15 : decode k_Md_isFolder.1 15 = .ok (.baload, 1) := by decide +kernel
theorem d_Md_isFolder_16 : decode k_Md_isFolder.1 16 = .ok (.ifCond .eq 16, 3) := by decide +kernel
theorem d_Md_isFolder_19 : decode k_Md_isFolder.1 19 = .ok (.aload_n 0, 1) := by decide +kernel
theorem d_Md_isFolder_20 : decode k_Md_isFolder.1 20 = .ok (.getfield 13, 3) := by decide +kernel
theorem d_Md_isFolder_23 : decode k_Md_isFolder.1 23 = .ok (.iload_n 1, 1) := by decide +kernel
theorem d_Md_isFolder_24 : decode k_Md_isFolder.1 24 = .ok (.baload, 1) := by decide +kernel
theorem d_Md_isFolder_25 : decode k_Md_isFolder.1 25 = .ok (.ifCond .eq 7, 3) := by decide +kernel
theorem d_Md_isFolder_28 : decode k_Md_isFolder.1 28 = .ok (.iconst 1, 1) := by decide +kernel
theorem d_Md_isFolder_29 : decode k_Md_isFolder.1 29 = .ok (.goto 4, 3) := by decide +kernel
theorem d_Md_isFolder_32 : decode k_Md_isFolder.1 32 = .ok (.iconst 0, 1) := by decide +kernel
theorem d_Md_isFolder_33 : decode k_Md_isFolder.1 33 = .ok (.ireturn, 1) := by decide +kernel
theorem d_Md_tell_0 : decode k_Md_tell.1 0 = .ok (.aload_n 0, 1) := by decide +kernel
theorem d_Md_tell_1 : decode k_Md_tell.1 1 = .ok (.getfield 95, 3) := by decide +kernel
theorem d_Md_tell_4 : decode k_Md_tell.1 4 = .ok (.ifCond .eq 4, 3) := by decide +kernel
theorem d_Md_tell_7 : decode k_Md_tell.1 7 = .ok (.return_, 1) := by decide +kernel
theorem d_Md_tell_8 : decode k_Md_tell.1 8 = .ok (.iconst 0, 1) := by decide +kernel
theorem d_Md_tell_9 : decode k_Md_tell.1 9 = .ok (.istore_n 3, 1) := by decide +kernel
theorem d_Md_tell_10 : decode k_Md_tell.1 10 = .ok (.iload_n 3, 1) := by decide +kernel
theorem d_Md_tell_11 : decode k_Md_tell.1 11 = .ok (.aload_n 0, 1) := by decide +kernel
theorem d_Md_tell_12 : decode k_Md_tell.1 12 = .ok (.getfield 92, 3) := by decide +kernel
theorem d_Md_tell_15 : decode k_Md_tell.1 15 = .ok (.if_icmp .ge 53, 3) := by decide +kernel
theorem d_Md_tell_18 : decode k_Md_tell.1 18 = .ok (.aload_n 0, 1) := by decide +kernel
theorem d_Md_tell_19 : decode k_Md_tell.1 19 = .ok (.getfield 32, 3) := by decide +kernel
theorem d_Md_tell_22 : decode k_Md_tell.1 22 = .ok (.iload_n 3, 1) := by decide +kernel
theorem d_Md_tell_23 : decode k_Md_tell.1 23 = .ok (.iaload, 1) := by decide +kernel
theorem d_Md_tell_24 : decode k_Md_tell.1 24 = .ok (.iload_n 2, 1) := by decide +kernel
theorem d_Md_tell_25 : decode k_Md_tell.1 25 = .ok (.if_icmp .eq 6, 3) := by decide +kernel
theorem d_Md_tell_28 : decode k_Md_tell.1 28 = .ok (.goto 34, 3) := by decide +kernel
theorem d_Md_tell_31 : decode k_Md_tell.1 31 = .ok (.aload_n 0, 1) := by decide +kernel
theorem d_Md_tell_32 : decode k_Md_tell.1 32 = .ok (.getfield 29, 3) := by decide +kernel
theorem d_Md_tell_35 : decode k_Md_tell.1 35 = .ok (.iload_n 3, 1) := by decide +kernel
theorem d_Md_tell_36 : decode k_Md_tell.1 36 = .ok (.aload_n 0, 1) := by decide +kernel
theorem d_Md_tell_37 : decode k_Md_tell.1 37 = .ok (.getfield 29, 3) := by decide +kernel
theorem d_Md_tell_40 : decode k_Md_tell.1 40 = .ok (.iload_n 3, 1) := by decide +kernel
theorem d_Md_tell_41 : decode k_Md_tell.1 41 = .ok (.iaload, 1) := by decide +kernel
theorem d_Md_tell_42 : decode k_Md_tell.1 42 = .ok (.iload_n 1, 1) := by decide +kernel
theorem d_Md_tell_43 : decode k_Md_tell.1 43 = .ok (.invokestatic 99, 3) := by decide +kernel
theorem d_Md_tell_46 : decode k_Md_tell.1 46 = .ok (.iastore, 1) := by decide +kernel
theorem d_Md_tell_47 : decode k_Md_tell.1 47 = .ok (.aload_n 0, 1) := by decide +kernel
theorem d_Md_tell_48 : decode k_Md_tell.1 48 = .ok (.getfield 29, 3) := by decide +kernel
theorem d_Md_tell_51 : decode k_Md_tell.1 51 = .ok (.iload_n 3, 1) := by decide +kernel
theorem d_Md_tell_52 : decode k_Md_tell.1 52 = .ok (.iaload, 1) := by decide +kernel
theorem d_Md_tell_53 : decode k_Md_tell.1 53 = .ok (.ifCond .ne 8, 3) := by decide +kernel
theorem d_Md_tell_56 : decode k_Md_tell.1 56 = .ok (.aload_n 0, 1) := by decide +kernel
theorem d_Md_tell_57 : decode k_Md_tell.1 57 = .ok (.iload_n 3, 1) := by decide +kernel
theorem d_Md_tell_58 : decode k_Md_tell.1 58 = .ok (.invokevirtual 103, 3) := by decide +kernel
theorem d_Md_tell_61 : decode k_Md_tell.1 61 = .ok (.return_, 1) := by decide +kernel
theorem d_Md_tell_62 : decode k_Md_tell.1 62 = .ok (.iinc 3 1, 3) := by decide +kernel
theorem d_Md_tell_65 : decode k_Md_tell.1 65 = .ok (.goto (-55), 3) := by decide +kernel
theorem d_Md_tell_68 : decode k_Md_tell.1 68 = .ok (.aload_n 0, 1) := by decide +kernel
theorem d_Md_tell_69 : decode k_Md_tell.1 69 = .ok (.getfield 92, 3) := by decide +kernel
theorem d_Md_tell_72 : decode k_Md_tell.1 72 = .ok (.bipush 8, 2) := by decide +kernel
theorem d_Md_tell_74 : decode k_Md_tell.1 74 = .ok (.if_icmp .ne 14, 3) := by decide +kernel
theorem d_Md_tell_77 : decode k_Md_tell.1 77 = .ok (.aload_n 0, 1) := by decide +kernel
theorem d_Md_tell_78 : decode k_Md_tell.1 78 = .ok (.iconst 0, 1) := by decide +kernel
theorem d_Md_tell_79 : decode k_Md_tell.1 79 = .ok (.putfield 92, 3) := by decide +kernel
theorem d_Md_tell_82 : decode k_Md_tell.1 82 = .ok (.aload_n 0, 1) := by decide +kernel
theorem d_Md_tell_83 : decode k_Md_tell.1 83 = .ok (.iconst 1, 1) := by decide +kernel
theorem d_Md_tell_84 : decode k_Md_tell.1 84 = .ok (.putfield 95, 3) := by decide +kernel
theorem d_Md_tell_87 : decode k_Md_tell.1 87 = .ok (.return_, 1) := by decide +kernel
theorem d_Md_tell_88 : decode k_Md_tell.1 88 = .ok (.aload_n 0, 1) := by decide +kernel
theorem d_Md_tell_89 : decode k_Md_tell.1 89 = .ok (.getfield 29, 3) := by decide +kernel
theorem d_Md_tell_92 : decode k_Md_tell.1 92 = .ok (.aload_n 0, 1) := by decide +kernel
theorem d_Md_tell_93 : decode k_Md_tell.1 93 = .ok (.getfield 92, 3) := by decide +kernel
theorem d_Md_tell_96 : decode k_Md_tell.1 96 = .ok (.iload_n 1, 1) := by decide +kernel
theorem d_Md_tell_97 : decode k_Md_tell.1 97 = .ok (.iastore, 1) := by decide +kernel
theorem d_Md_tell_98 : decode k_Md_tell.1 98 = .ok (.aload_n 0, 1) := by decide +kernel
theorem d_Md_tell_99 : decode k_Md_tell.1 99 = .ok (.getfield 32, 3) := by decide +kernel
theorem d_Md_tell_102 : decode k_Md_tell.1 102 = .ok (.aload_n 0, 1) := by decide +kernel
theorem d_Md_tell_103 : decode k_Md_tell.1 103 = .ok (.getfield 92, 3) := by decide +kernel
theorem d_Md_tell_106 : decode k_Md_tell.1 106 = .ok (.iload_n 2, 1) := by decide +kernel
theorem d_Md_tell_107 : decode k_Md_tell.1 107 = .ok (.iastore, 1) := by decide +kernel
theorem d_Md_tell_108 : decode k_Md_tell.1 108 = .ok (.aload_n 0, 1) := by decide +kernel
theorem d_Md_tell_109 : decode k_Md_tell.1 109 = .ok (.dup, 1) := by decide +kernel
theorem d_Md_tell_110 : decode k_Md_tell.1 110 = .ok (.getfield 92, 3) := by decide +kernel
theorem d_Md_tell_113 : decode k_Md_tell.1 113 = .ok (.iconst 1, 1) := by decide +kernel
theorem d_Md_tell_114 : decode k_Md_tell.1 114 = .ok (.iadd, 1) := by decide +kernel
theorem d_Md_tell_115 : decode k_Md_tell.1 115 = .ok (.putfield 92, 3) := by decide +kernel
theorem d_Md_tell_118 : decode k_Md_tell.1 118 = .ok (.return_, 1) := by decide +kernel
theorem d_Md_together_0 : decode k_Md_together.1 0 = .ok (.iload_n 0, 1) := by decide +kernel
theorem d_Md_together_1 : decode k_Md_together.1 1 = .ok (.iconst 1, 1) := by decide +kernel
theorem d_Md_together_2 : decode k_Md_together.1 2 = .ok (.if_icmp .ne 14, 3) := by decide +kernel
theorem d_Md_together_5 : decode k_Md_together.1 5 = .ok (.iload_n 1, 1) := by decide +kernel
theorem d_Md_together_6 : decode k_Md_together.1 6 = .ok (.iconst 2, 1) := by decide +kernel
theorem d_Md_together_7 : decode k_Md_together.1 7 = .ok (.if_icmp .ne 7, 3) := by decide +kernel
theorem d_Md_together_10 : decode k_Md_together.1 10 = .ok (.iconst 1, 1) := by decide +kernel
theorem d_Md_together_11 : decode k_Md_together.1 11 = .ok (.goto 4, 3) := by decide +kernel
theorem d_Md_together_14 : decode k_Md_together.1 14 = .ok (.iconst 0, 1) := by decide +kernel
theorem d_Md_together_15 : decode k_Md_together.1 15 = .ok (.ireturn, 1) := by decide +kernel
theorem d_Md_together_16 : decode k_Md_together.1 16 = .ok (.iload_n 0, 1) := by decide +kernel
theorem d_Md_together_17 : decode k_Md_together.1 17 = .ok (.iconst 2, 1) := by decide +kernel
theorem d_Md_together_18 : decode k_Md_together.1 18 = .ok (.if_icmp .ne 5, 3) := by decide +kernel
theorem d_Md_together_21 : decode k_Md_together.1 21 = .ok (.iload_n 1, 1) := by decide +kernel
theorem d_Md_together_22 : decode k_Md_together.1 22 = .ok (.ireturn, 1) := by decide +kernel
theorem d_Md_together_23 : decode k_Md_together.1 23 = .ok (.iconst 2, 1) := by decide +kernel
theorem d_Md_together_24 : decode k_Md_together.1 24 = .ok (.ireturn, 1) := by decide +kernel
theorem d_Md_drop_0 : decode k_Md_drop.1 0 = .ok (.aload_n 0, 1) := by decide +kernel
theorem d_Md_drop_1 : decode k_Md_drop.1 1 = .ok (.dup, 1) := by decide +kernel
theorem d_Md_drop_2 : decode k_Md_drop.1 2 = .ok (.getfield 92, 3) := by decide +kernel
theorem d_Md_drop_5 : decode k_Md_drop.1 5 = .ok (.iconst 1, 1) := by decide +kernel
theorem d_Md_drop_6 : decode k_Md_drop.1 6 = .ok (.isub, 1) := by decide +kernel
theorem d_Md_drop_7 : decode k_Md_drop.1 7 = .ok (.putfield 92, 3) := by decide +kernel
theorem d_Md_drop_10 : decode k_Md_drop.1 10 = .ok (.iload_n 1, 1) := by decide +kernel
theorem d_Md_drop_11 : decode k_Md_drop.1 11 = .ok (.istore_n 2, 1) := by decide +kernel
theorem d_Md_drop_12 : decode k_Md_drop.1 12 = .ok (.iload_n 2, 1) := by decide +kernel
theorem d_Md_drop_13 : decode k_Md_drop.1 13 = .ok (.aload_n 0, 1) := by decide +kernel
theorem d_Md_drop_14 : decode k_Md_drop.1 14 = .ok (.getfield 92, 3) := by decide +kernel
theorem d_Md_drop_17 : decode k_Md_drop.1 17 = .ok (.if_icmp .ge 37, 3) := by decide +kernel
theorem d_Md_drop_20 : decode k_Md_drop.1 20 = .ok (.aload_n 0, 1) := by decide +kernel
theorem d_Md_drop_21 : decode k_Md_drop.1 21 = .ok (.getfield 29, 3) := by decide +kernel
theorem d_Md_drop_24 : decode k_Md_drop.1 24 = .ok (.iload_n 2, 1) := by decide +kernel
theorem d_Md_drop_25 : decode k_Md_drop.1 25 = .ok (.aload_n 0, 1) := by decide +kernel
theorem d_Md_drop_26 : decode k_Md_drop.1 26 = .ok (.getfield 29, 3) := by decide +kernel
theorem d_Md_drop_29 : decode k_Md_drop.1 29 = .ok (.iload_n 2, 1) := by decide +kernel
theorem d_Md_drop_30 : decode k_Md_drop.1 30 = .ok (.iconst 1, 1) := by decide +kernel
theorem d_Md_drop_31 : decode k_Md_drop.1 31 = .ok (.iadd, 1) := by decide +kernel
theorem d_Md_drop_32 : decode k_Md_drop.1 32 = .ok (.iaload, 1) := by decide +kernel
theorem d_Md_drop_33 : decode k_Md_drop.1 33 = .ok (.iastore, 1) := by decide +kernel
theorem d_Md_drop_34 : decode k_Md_drop.1 34 = .ok (.aload_n 0, 1) := by decide +kernel
theorem d_Md_drop_35 : decode k_Md_drop.1 35 = .ok (.getfield 32, 3) := by decide +kernel
theorem d_Md_drop_38 : decode k_Md_drop.1 38 = .ok (.iload_n 2, 1) := by decide +kernel
theorem d_Md_drop_39 : decode k_Md_drop.1 39 = .ok (.aload_n 0, 1) := by decide +kernel
theorem d_Md_drop_40 : decode k_Md_drop.1 40 = .ok (.getfield 32, 3) := by decide +kernel
theorem d_Md_drop_43 : decode k_Md_drop.1 43 = .ok (.iload_n 2, 1) := by decide +kernel
theorem d_Md_drop_44 : decode k_Md_drop.1 44 = .ok (.iconst 1, 1) := by decide +kernel
theorem d_Md_drop_45 : decode k_Md_drop.1 45 = .ok (.iadd, 1) := by decide +kernel
theorem d_Md_drop_46 : decode k_Md_drop.1 46 = .ok (.iaload, 1) := by decide +kernel
theorem d_Md_drop_47 : decode k_Md_drop.1 47 = .ok (.iastore, 1) := by decide +kernel
theorem d_Md_drop_48 : decode k_Md_drop.1 48 = .ok (.iinc 2 1, 3) := by decide +kernel
theorem d_Md_drop_51 : decode k_Md_drop.1 51 = .ok (.goto (-39), 3) := by decide +kernel
theorem d_Md_drop_54 : decode k_Md_drop.1 54 = .ok (.return_, 1) := by decide +kernel
theorem d_Md_write_0 : decode k_Md_write.1 0 = .ok (.aload_n 0, 1) := by decide +kernel
theorem d_Md_write_1 : decode k_Md_write.1 1 = .ok (.iconst 0, 1) := by decide +kernel
theorem d_Md_write_2 : decode k_Md_write.1 2 = .ok (.putfield 85, 3) := by decide +kernel
theorem d_Md_write_5 : decode k_Md_write.1 5 = .ok (.aload_n 0, 1) := by decide +kernel
theorem d_Md_write_6 : decode k_Md_write.1 6 = .ok (.iload_n 1, 1) := by decide +kernel
theorem d_Md_write_7 : decode k_Md_write.1 7 = .ok (.invokevirtual 119, 3) := by decide +kernel
theorem d_Md_write_10 : decode k_Md_write.1 10 = .ok (.ifCond .ne 9, 3) := by decide +kernel
theorem d_Md_write_13 : decode k_Md_write.1 13 = .ok (.aload_n 0, 1) := by decide +kernel
theorem d_Md_write_14 : decode k_Md_write.1 14 = .ok (.iconst 1, 1) := by decide +kernel
theorem d_Md_write_15 : decode k_Md_write.1 15 = .ok (.invokevirtual 107, 3) := by decide +kernel
theorem d_Md_write_18 : decode k_Md_write.1 18 = .ok (.ireturn, 1) := by decide +kernel
theorem d_Md_write_19 : decode k_Md_write.1 19 = .ok (.iload 4, 2) := by decide +kernel
theorem d_Md_write_21 : decode k_Md_write.1 21 = .ok (.iconst 1, 1) := by decide +kernel
theorem d_Md_write_22 : decode k_Md_write.1 22 = .ok (.bipush 8, 2) := by decide +kernel
theorem d_Md_write_24 : decode k_Md_write.1 24 = .ok (.invokestatic 88, 3) := by decide +kernel
theorem d_Md_write_27 : decode k_Md_write.1 27 = .ok (.ifCond .ne 9, 3) := by decide +kernel
theorem d_Md_write_30 : decode k_Md_write.1 30 = .ok (.aload_n 0, 1) := by decide +kernel
theorem d_Md_write_31 : decode k_Md_write.1 31 = .ok (.iconst 2, 1) := by decide +kernel
theorem d_Md_write_32 : decode k_Md_write.1 32 = .ok (.invokevirtual 107, 3) := by decide +kernel
theorem d_Md_write_35 : decode k_Md_write.1 35 = .ok (.ireturn, 1) := by decide +kernel
theorem d_Md_write_36 : decode k_Md_write.1 36 = .ok (.iconst 0, 1) := by decide +kernel
theorem d_Md_write_37 : decode k_Md_write.1 37 = .ok (.istore 5, 2) := by decide +kernel
theorem d_Md_write_39 : decode k_Md_write.1 39 = .ok (.iload 5, 2) := by decide +kernel
theorem d_Md_write_41 : decode k_Md_write.1 41 = .ok (.iload 4, 2) := by decide +kernel
theorem d_Md_write_43 : decode k_Md_write.1 43 = .ok (.if_icmp .ge 37, 3) := by decide +kernel
theorem d_Md_write_46 : decode k_Md_write.1 46 = .ok (.lload_n 2, 1) := by decide +kernel
theorem d_Md_write_47 : decode k_Md_write.1 47 = .ok (.bipush 8, 2) := by decide +kernel
theorem d_Md_write_49 : decode k_Md_write.1 49 = .ok (.iload 5, 2) := by decide +kernel
theorem d_Md_write_51 : decode k_Md_write.1 51 = .ok (.imul, 1) := by decide +kernel
theorem d_Md_write_52 : decode k_Md_write.1 52 = .ok (.lshr, 1) := by decide +kernel
theorem d_Md_write_53 : decode k_Md_write.1 53 = .ok (.l2i, 1) := by decide +kernel
theorem d_Md_write_54 : decode k_Md_write.1 54 = .ok (.sipush 255, 3) := by decide +kernel
theorem d_Md_write_57 : decode k_Md_write.1 57 = .ok (.iand, 1) := by decide +kernel
theorem d_Md_write_58 : decode k_Md_write.1 58 = .ok (.bipush 32, 2) := by decide +kernel
theorem d_Md_write_60 : decode k_Md_write.1 60 = .ok (.bipush 126, 2) := by decide +kernel
theorem d_Md_write_62 : decode k_Md_write.1 62 = .ok (.invokestatic 88, 3) := by decide +kernel
theorem d_Md_write_65 : decode k_Md_write.1 65 = .ok (.ifCond .ne 9, 3) := by decide +kernel
theorem d_Md_write_68 : decode k_Md_write.1 68 = .ok (.aload_n 0, 1) := by decide +kernel
theorem d_Md_write_69 : decode k_Md_write.1 69 = .ok (.iconst 2, 1) := by decide +kernel
theorem d_Md_write_70 : decode k_Md_write.1 70 = .ok (.invokevirtual 107, 3) := by decide +kernel
theorem d_Md_write_73 : decode k_Md_write.1 73 = .ok (.ireturn, 1) := by decide +kernel
theorem d_Md_write_74 : decode k_Md_write.1 74 = .ok (.iinc 5 1, 3) := by decide +kernel
theorem d_Md_write_77 : decode k_Md_write.1 77 = .ok (.goto (-38), 3) := by decide +kernel
theorem d_Md_write_80 : decode k_Md_write.1 80 = .ok (.aload_n 0, 1) := by decide +kernel
theorem d_Md_write_81 : decode k_Md_write.1 81 = .ok (.getfield 23, 3) := by decide +kernel
theorem d_Md_write_84 : decode k_Md_write.1 84 = .ok (.iload_n 1, 1) := by decide +kernel
theorem d_Md_write_85 : decode k_Md_write.1 85 = .ok (.iaload, 1) := by decide +kernel
theorem d_Md_write_86 : decode k_Md_write.1 86 = .ok (.iload 4, 2) := by decide +kernel
theorem d_Md_write_88 : decode k_Md_write.1 88 = .ok (.iadd, 1) := by decide +kernel
theorem d_Md_write_89 : decode k_Md_write.1 89 = .ok (.bipush 60, 2) := by decide +kernel
theorem d_Md_write_91 : decode k_Md_write.1 91 = .ok (.if_icmp .le 9, 3) := by decide +kernel
theorem d_Md_write_94 : decode k_Md_write.1 94 = .ok (.aload_n 0, 1) := by decide +kernel
theorem d_Md_write_95 : decode k_Md_write.1 95 = .ok (.iconst 3, 1) := by decide +kernel
theorem d_Md_write_96 : decode k_Md_write.1 96 = .ok (.invokevirtual 107, 3) := by decide +kernel
theorem d_Md_write_99 : decode k_Md_write.1 99 = .ok (.ireturn, 1) := by decide +kernel
theorem d_Md_write_100 : decode k_Md_write.1 100 = .ok (.iload 4, 2) := by decide +kernel
theorem d_Md_write_102 : decode k_Md_write.1 102 = .ok (.iconst 1, 1) := by decide +kernel
theorem d_Md_write_103 : decode k_Md_write.1 103 = .ok (.isub, 1) := by decide +kernel
theorem d_Md_write_104 : decode k_Md_write.1 104 = .ok (.istore 5, 2) := by decide +kernel
theorem d_Md_write_106 : decode k_Md_write.1 106 = .ok (.iload 5, 2) := by decide +kernel
theorem d_Md_write_108 : decode k_Md_write.1 108 = .ok (.ifCond .lt 47, 3) := by decide +kernel
theorem d_Md_write_111 : decode k_Md_write.1 111 = .ok (.aload_n 0, 1) := by decide +kernel
theorem d_Md_write_112 : decode k_Md_write.1 112 = .ok (.getfield 20, 3) := by decide +kernel
theorem d_Md_write_115 : decode k_Md_write.1 115 = .ok (.bipush 60, 2) := by decide +kernel
theorem d_Md_write_117 : decode k_Md_write.1 117 = .ok (.iload_n 1, 1) := by decide +kernel
theorem d_Md_write_118 : decode k_Md_write.1 118 = .ok (.imul, 1) := by decide +kernel
theorem d_Md_write_119 : decode k_Md_write.1 119 = .ok (.aload_n 0, 1) := by decide +kernel
theorem d_Md_write_120 : decode k_Md_write.1 120 = .ok (.getfield 23, 3) := by decide +kernel
theorem d_Md_write_123 : decode k_Md_write.1 123 = .ok (.iload_n 1, 1) := by decide +kernel
theorem d_Md_write_124 : decode k_Md_write.1 124 = .ok (.iaload, 1) := by decide +kernel
theorem d_Md_write_125 : decode k_Md_write.1 125 = .ok (.iadd, 1) := by decide +kernel
theorem d_Md_write_126 : decode k_Md_write.1 126 = .ok (.lload_n 2, 1) := by decide +kernel
theorem d_Md_write_127 : decode k_Md_write.1 127 = .ok (.bipush 8, 2) := by decide +kernel
theorem d_Md_write_129 : decode k_Md_write.1 129 = .ok (.iload 5, 2) := by decide +kernel
theorem d_Md_write_131 : decode k_Md_write.1 131 = .ok (.imul, 1) := by decide +kernel
theorem d_Md_write_132 : decode k_Md_write.1 132 = .ok (.lshr, 1) := by decide +kernel
theorem d_Md_write_133 : decode k_Md_write.1 133 = .ok (.l2i, 1) := by decide +kernel
theorem d_Md_write_134 : decode k_Md_write.1 134 = .ok (.sipush 255, 3) := by decide +kernel
theorem d_Md_write_137 : decode k_Md_write.1 137 = .ok (.iand, 1) := by decide +kernel
theorem d_Md_write_138 : decode k_Md_write.1 138 = .ok (.iastore, 1) := by decide +kernel
theorem d_Md_write_139 : decode k_Md_write.1 139 = .ok (.aload_n 0, 1) := by decide +kernel
theorem d_Md_write_140 : decode k_Md_write.1 140 = .ok (.getfield 23, 3) := by decide +kernel
theorem d_Md_write_143 : decode k_Md_write.1 143 = .ok (.iload_n 1, 1) := by decide +kernel
theorem d_Md_write_144 : decode k_Md_write.1 144 = .ok (.dup2, 1) := by decide +kernel
theorem d_Md_write_145 : decode k_Md_write.1 145 = .ok (.iaload, 1) := by decide +kernel
theorem d_Md_write_146 : decode k_Md_write.1 146 = .ok (.iconst 1, 1) := by decide +kernel
theorem d_Md_write_147 : decode k_Md_write.1 147 = .ok (.iadd, 1) := by decide +kernel
theorem d_Md_write_148 : decode k_Md_write.1 148 = .ok (.iastore, 1) := by decide +kernel
theorem d_Md_write_149 : decode k_Md_write.1 149 = .ok (.iinc 5 (-1), 3) := by decide +kernel
theorem d_Md_write_152 : decode k_Md_write.1 152 = .ok (.goto (-46), 3) := by decide +kernel
theorem d_Md_write_155 : decode k_Md_write.1 155 = .ok (.aload_n 0, 1) := by decide +kernel
theorem d_Md_write_156 : decode k_Md_write.1 156 = .ok (.iconst 2, 1) := by decide +kernel
theorem d_Md_write_157 : decode k_Md_write.1 157 = .ok (.iload_n 1, 1) := by decide +kernel
theorem d_Md_write_158 : decode k_Md_write.1 158 = .ok (.invokevirtual 115, 3) := by decide +kernel
theorem d_Md_write_161 : decode k_Md_write.1 161 = .ok (.aload_n 0, 1) := by decide +kernel
theorem d_Md_write_162 : decode k_Md_write.1 162 = .ok (.getfield 23, 3) := by decide +kernel
theorem d_Md_write_165 : decode k_Md_write.1 165 = .ok (.iload_n 1, 1) := by decide +kernel
theorem d_Md_write_166 : decode k_Md_write.1 166 = .ok (.iaload, 1) := by decide +kernel
theorem d_Md_write_167 : decode k_Md_write.1 167 = .ok (.ireturn, 1) := by decide +kernel
theorem d_Md_isFile_0 : decode k_Md_isFile.1 0 = .ok (.iload_n 1, 1) := by decide +kernel
theorem d_Md_isFile_1 : decode k_Md_isFile.1 1 = .ok (.iconst 0, 1) := by decide +kernel
theorem d_Md_isFile_2 : decode k_Md_isFile.1 2 = .ok (.bipush 15, 2) := by decide +kernel
theorem d_Md_isFile_4 : decode k_Md_isFile.1 4 = .ok (.invokestatic 88, 3) := by decide +kernel
theorem d_Md_isFile_7 : decode k_Md_isFile.1 7 = .ok (.ifCond .eq 25, 3) := by decide +kernel
theorem d_Md_isFile_10 : decode k_Md_isFile.1 10 = .ok (.aload_n 0, 1) := by decide +kernel
theorem d_Md_isFile_11 : decode k_Md_isFile.1 11 = .ok (.getfield 7, 3) := by decide +kernel
theorem d_Md_isFile_14 : decode k_Md_isFile.1 14 = .ok (.iload_n 1, 1) := by decide +kernel
theorem d_Md_isFile_15 : decode k_Md_isFile.1 15 = .ok (.baload, 1) := by decide +kernel
theorem d_Md_isFile_16 : decode k_Md_isFile.1 16 = .ok (.ifCond .eq 16, 3) := by decide +kernel
theorem d_Md_isFile_19 : decode k_Md_isFile.1 19 = .ok (.aload_n 0, 1) := by decide +kernel
theorem d_Md_isFile_20 : decode k_Md_isFile.1 20 = .ok (.getfield 13, 3) := by decide +kernel
theorem d_Md_isFile_23 : decode k_Md_isFile.1 23 = .ok (.iload_n 1, 1) := by decide +kernel
theorem d_Md_isFile_24 : decode k_Md_isFile.1 24 = .ok (.baload, 1) := by decide +kernel
theorem d_Md_isFile_25 : decode k_Md_isFile.1 25 = .ok (.ifCond .ne 7, 3) := by decide +kernel
theorem d_Md_isFile_28 : decode k_Md_isFile.1 28 = .ok (.iconst 1, 1) := by decide +kernel
theorem d_Md_isFile_29 : decode k_Md_isFile.1 29 = .ok (.goto 4, 3) := by decide +kernel
theorem d_Md_isFile_32 : decode k_Md_isFile.1 32 = .ok (.iconst 0, 1) := by decide +kernel
theorem d_Md_isFile_33 : decode k_Md_isFile.1 33 = .ok (.ireturn, 1) := by decide +kernel
theorem d_Md_cut_0 : decode k_Md_cut.1 0 = .ok (.aload_n 0, 1) := by decide +kernel
theorem d_Md_cut_1 : decode k_Md_cut.1 1 = .ok (.iconst 0, 1) := by decide +kernel
theorem d_Md_cut_2 : decode k_Md_cut.1 2 = .ok (.putfield 85, 3) := by decide +kernel
theorem d_Md_cut_5 : decode k_Md_cut.1 5 = .ok (.aload_n 0, 1) := by decide +kernel
theorem d_Md_cut_6 : decode k_Md_cut.1 6 = .ok (.iload_n 1, 1) := by decide +kernel
theorem d_Md_cut_7 : decode k_Md_cut.1 7 = .ok (.invokevirtual 119, 3) := by decide +kernel
theorem d_Md_cut_10 : decode k_Md_cut.1 10 = .ok (.ifCond .ne 9, 3) := by decide +kernel
theorem d_Md_cut_13 : decode k_Md_cut.1 13 = .ok (.aload_n 0, 1) := by decide +kernel
theorem d_Md_cut_14 : decode k_Md_cut.1 14 = .ok (.iconst 1, 1) := by decide +kernel
theorem d_Md_cut_15 : decode k_Md_cut.1 15 = .ok (.invokevirtual 107, 3) := by decide +kernel
theorem d_Md_cut_18 : decode k_Md_cut.1 18 = .ok (.ireturn, 1) := by decide +kernel
theorem d_Md_cut_19 : decode k_Md_cut.1 19 = .ok (.iload_n 2, 1) := by decide +kernel
theorem d_Md_cut_20 : decode k_Md_cut.1 20 = .ok (.iconst 0, 1) := by decide +kernel
theorem d_Md_cut_21 : decode k_Md_cut.1 21 = .ok (.aload_n 0, 1) := by decide +kernel
theorem d_Md_cut_22 : decode k_Md_cut.1 22 = .ok (.getfield 23, 3) := by decide +kernel
theorem d_Md_cut_25 : decode k_Md_cut.1 25 = .ok (.iload_n 1, 1) := by decide +kernel
theorem d_Md_cut_26 : decode k_Md_cut.1 26 = .ok (.iaload, 1) := by decide +kernel
theorem d_Md_cut_27 : decode k_Md_cut.1 27 = .ok (.invokestatic 88, 3) := by decide +kernel
theorem d_Md_cut_30 : decode k_Md_cut.1 30 = .ok (.ifCond .ne 9, 3) := by decide +kernel
theorem d_Md_cut_33 : decode k_Md_cut.1 33 = .ok (.aload_n 0, 1) := by decide +kernel
theorem d_Md_cut_34 : decode k_Md_cut.1 34 = .ok (.iconst 2, 1) := by decide +kernel
theorem d_Md_cut_35 : decode k_Md_cut.1 35 = .ok (.invokevirtual 107, 3) := by decide +kernel
theorem d_Md_cut_38 : decode k_Md_cut.1 38 = .ok (.ireturn, 1) := by decide +kernel
theorem d_Md_cut_39 : decode k_Md_cut.1 39 = .ok (.aload_n 0, 1) := by decide +kernel
theorem d_Md_cut_40 : decode k_Md_cut.1 40 = .ok (.getfield 23, 3) := by decide +kernel
theorem d_Md_cut_43 : decode k_Md_cut.1 43 = .ok (.iload_n 1, 1) := by decide +kernel
theorem d_Md_cut_44 : decode k_Md_cut.1 44 = .ok (.iaload, 1) := by decide +kernel
theorem d_Md_cut_45 : decode k_Md_cut.1 45 = .ok (.iload_n 2, 1) := by decide +kernel
theorem d_Md_cut_46 : decode k_Md_cut.1 46 = .ok (.isub, 1) := by decide +kernel
theorem d_Md_cut_47 : decode k_Md_cut.1 47 = .ok (.istore_n 3, 1) := by decide +kernel
theorem d_Md_cut_48 : decode k_Md_cut.1 48 = .ok (.aload_n 0, 1) := by decide +kernel
theorem d_Md_cut_49 : decode k_Md_cut.1 49 = .ok (.getfield 23, 3) := by decide +kernel
theorem d_Md_cut_52 : decode k_Md_cut.1 52 = .ok (.iload_n 1, 1) := by decide +kernel
theorem d_Md_cut_53 : decode k_Md_cut.1 53 = .ok (.iload_n 2, 1) := by decide +kernel
theorem d_Md_cut_54 : decode k_Md_cut.1 54 = .ok (.iastore, 1) := by decide +kernel
theorem d_Md_cut_55 : decode k_Md_cut.1 55 = .ok (.iload_n 3, 1) := by decide +kernel
theorem d_Md_cut_56 : decode k_Md_cut.1 56 = .ok (.ifCond .le 9, 3) := by decide +kernel
theorem d_Md_cut_59 : decode k_Md_cut.1 59 = .ok (.aload_n 0, 1) := by decide +kernel
theorem d_Md_cut_60 : decode k_Md_cut.1 60 = .ok (.iconst 2, 1) := by decide +kernel
theorem d_Md_cut_61 : decode k_Md_cut.1 61 = .ok (.iload_n 1, 1) := by decide +kernel
theorem d_Md_cut_62 : decode k_Md_cut.1 62 = .ok (.invokevirtual 115, 3) := by decide +kernel
theorem d_Md_cut_65 : decode k_Md_cut.1 65 = .ok (.iload_n 3, 1) := by decide +kernel
theorem d_Md_cut_66 : decode k_Md_cut.1 66 = .ok (.ireturn, 1) := by decide +kernel
theorem d_Md_remove_0 : decode k_Md_remove.1 0 = .ok (.aload_n 0, 1) := by decide +kernel
theorem d_Md_remove_1 : decode k_Md_remove.1 1 = .ok (.iconst 0, 1) := by decide +kernel
theorem d_Md_remove_2 : decode k_Md_remove.1 2 = .ok (.putfield 85, 3) := by decide +kernel
theorem d_Md_remove_5 : decode k_Md_remove.1 5 = .ok (.iload_n 1, 1) := by decide +kernel
theorem d_Md_remove_6 : decode k_Md_remove.1 6 = .ok (.iconst 1, 1) := by decide +kernel
theorem d_Md_remove_7 : decode k_Md_remove.1 7 = .ok (.bipush 15, 2) := by decide +kernel
theorem d_Md_remove_9 : decode k_Md_remove.1 9 = .ok (.invokestatic 88, 3) := by decide +kernel
theorem d_Md_remove_12 : decode k_Md_remove.1 12 = .ok (.ifCond .ne 9, 3) := by decide +kernel
theorem d_Md_remove_15 : decode k_Md_remove.1 15 = .ok (.aload_n 0, 1) := by decide +kernel
theorem d_Md_remove_16 : decode k_Md_remove.1 16 = .ok (.iconst 1, 1) := by decide +kernel
theorem d_Md_remove_17 : decode k_Md_remove.1 17 = .ok (.invokevirtual 107, 3) := by decide +kernel
theorem d_Md_remove_20 : decode k_Md_remove.1 20 = .ok (.ireturn, 1) := by decide +kernel
theorem d_Md_remove_21 : decode k_Md_remove.1 21 = .ok (.aload_n 0, 1) := by decide +kernel
theorem d_Md_remove_22 : decode k_Md_remove.1 22 = .ok (.getfield 7, 3) := by decide +kernel
theorem d_Md_remove_25 : decode k_Md_remove.1 25 = .ok (.iload_n 1, 1) := by decide +kernel
theorem d_Md_remove_26 : decode k_Md_remove.1 26 = .ok (.baload, 1) := by decide +kernel
theorem d_Md_remove_27 : decode k_Md_remove.1 27 = .ok (.ifCond .ne 9, 3) := by decide +kernel
theorem d_Md_remove_30 : decode k_Md_remove.1 30 = .ok (.aload_n 0, 1) := by decide +kernel
theorem d_Md_remove_31 : decode k_Md_remove.1 31 = .ok (.iconst 2, 1) := by decide +kernel
theorem d_Md_remove_32 : decode k_Md_remove.1 32 = .ok (.invokevirtual 107, 3) := by decide +kernel
theorem d_Md_remove_35 : decode k_Md_remove.1 35 = .ok (.ireturn, 1) := by decide +kernel
theorem d_Md_remove_36 : decode k_Md_remove.1 36 = .ok (.aload_n 0, 1) := by decide +kernel
theorem d_Md_remove_37 : decode k_Md_remove.1 37 = .ok (.iload_n 1, 1) := by decide +kernel
theorem d_Md_remove_38 : decode k_Md_remove.1 38 = .ok (.invokevirtual 122, 3) := by decide +kernel
theorem d_Md_remove_41 : decode k_Md_remove.1 41 = .ok (.iconst 0, 1) := by decide +kernel
theorem d_Md_remove_42 : decode k_Md_remove.1 42 = .ok (.istore_n 2, 1) := by decide +kernel
theorem d_Md_remove_43 : decode k_Md_remove.1 43 = .ok (.iconst 0, 1) := by decide +kernel
theorem d_Md_remove_44 : decode k_Md_remove.1 44 = .ok (.istore_n 3, 1) := by decide +kernel
theorem d_Md_remove_45 : decode k_Md_remove.1 45 = .ok (.iload_n 3, 1) := by decide +kernel
theorem d_Md_remove_46 : decode k_Md_remove.1 46 = .ok (.bipush 16, 2) := by decide +kernel
theorem d_Md_remove_48 : decode k_Md_remove.1 48 = .ok (.if_icmp .ge 46, 3) := by decide +kernel
theorem d_Md_remove_51 : decode k_Md_remove.1 51 = .ok (.aload_n 0, 1) := by decide +kernel
theorem d_Md_remove_52 : decode k_Md_remove.1 52 = .ok (.getfield 26, 3) := by decide +kernel
theorem d_Md_remove_55 : decode k_Md_remove.1 55 = .ok (.iload_n 3, 1) := by decide +kernel
theorem d_Md_remove_56 : decode k_Md_remove.1 56 = .ok (.baload, 1) := by decide +kernel
theorem d_Md_remove_57 : decode k_Md_remove.1 57 = .ok (.ifCond .ne 6, 3) := by decide +kernel
theorem d_Md_remove_60 : decode k_Md_remove.1 60 = .ok (.goto 28, 3) := by decide +kernel
theorem d_Md_remove_63 : decode k_Md_remove.1 63 = .ok (.aload_n 0, 1) := by decide +kernel
theorem d_Md_remove_64 : decode k_Md_remove.1 64 = .ok (.getfield 7, 3) := by decide +kernel
theorem d_Md_remove_67 : decode k_Md_remove.1 67 = .ok (.iload_n 3, 1) := by decide +kernel
theorem d_Md_remove_68 : decode k_Md_remove.1 68 = .ok (.iconst 0, 1) := by decide +kernel
theorem d_Md_remove_69 : decode k_Md_remove.1 69 = .ok (.bastore, 1) := by decide +kernel
theorem d_Md_remove_70 : decode k_Md_remove.1 70 = .ok (.iinc 2 1, 3) := by decide +kernel
theorem d_Md_remove_73 : decode k_Md_remove.1 73 = .ok (.aload_n 0, 1) := by decide +kernel
theorem d_Md_remove_74 : decode k_Md_remove.1 74 = .ok (.getfield 13, 3) := by decide +kernel
theorem d_Md_remove_77 : decode k_Md_remove.1 77 = .ok (.iload_n 3, 1) := by decide +kernel
theorem d_Md_remove_78 : decode k_Md_remove.1 78 = .ok (.baload, 1) := by decide +kernel
theorem d_Md_remove_79 : decode k_Md_remove.1 79 = .ok (.ifCond .ne 9, 3) := by decide +kernel
theorem d_Md_remove_82 : decode k_Md_remove.1 82 = .ok (.aload_n 0, 1) := by decide +kernel
theorem d_Md_remove_83 : decode k_Md_remove.1 83 = .ok (.iconst 3, 1) := by decide +kernel
theorem d_Md_remove_84 : decode k_Md_remove.1 84 = .ok (.iload_n 3, 1) := by decide +kernel
theorem d_Md_remove_85 : decode k_Md_remove.1 85 = .ok (.invokevirtual 115, 3) := by decide +kernel
theorem d_Md_remove_88 : decode k_Md_remove.1 88 = .ok (.iinc 3 1, 3) := by decide +kernel
theorem d_Md_remove_91 : decode k_Md_remove.1 91 = .ok (.goto (-46), 3) := by decide +kernel
theorem d_Md_remove_94 : decode k_Md_remove.1 94 = .ok (.iload_n 2, 1) := by decide +kernel
theorem d_Md_remove_95 : decode k_Md_remove.1 95 = .ok (.ireturn, 1) := by decide +kernel
theorem d_Md_mark_0 : decode k_Md_mark.1 0 = .ok (.iconst 0, 1) := by decide +kernel
theorem d_Md_mark_1 : decode k_Md_mark.1 1 = .ok (.istore_n 2, 1) := by decide +kernel
theorem d_Md_mark_2 : decode k_Md_mark.1 2 = .ok (.iload_n 2, 1) := by decide +kernel
theorem d_Md_mark_3 : decode k_Md_mark.1 3 = .ok (.bipush 16, 2) := by decide +kernel
theorem d_Md_mark_5 : decode k_Md_mark.1 5 = .ok (.if_icmp .ge 34, 3) := by decide +kernel
theorem d_Md_mark_8 : decode k_Md_mark.1 8 = .ok (.aload_n 0, 1) := by decide +kernel
theorem d_Md_mark_9 : decode k_Md_mark.1 9 = .ok (.getfield 26, 3) := by decide +kernel
theorem d_Md_mark_12 : decode k_Md_mark.1 12 = .ok (.iload_n 2, 1) := by decide +kernel
theorem d_Md_mark_13 : decode k_Md_mark.1 13 = .ok (.iload_n 2, 1) := by decide +kernel
theorem d_Md_mark_14 : decode k_Md_mark.1 14 = .ok (.iload_n 1, 1) := by decide +kernel
theorem d_Md_mark_15 : decode k_Md_mark.1 15 = .ok (.if_icmp .eq 12, 3) := by decide +kernel
theorem d_Md_mark_18 : decode k_Md_mark.1 18 = .ok (.aload_n 0, 1) := by decide +kernel
theorem d_Md_mark_19 : decode k_Md_mark.1 19 = .ok (.iload_n 2, 1) := by decide +kernel
theorem d_Md_mark_20 : decode k_Md_mark.1 20 = .ok (.iload_n 1, 1) := by decide +kernel
theorem d_Md_mark_21 : decode k_Md_mark.1 21 = .ok (.invokevirtual 125, 3) := by decide +kernel
theorem d_Md_mark_24 : decode k_Md_mark.1 24 = .ok (.ifCond .eq 7, 3) := by decide +kernel
theorem d_Md_mark_27 : decode k_Md_mark.1 27 = .ok (.iconst 1, 1) := by decide +kernel
theorem d_Md_mark_28 : decode k_Md_mark.1 28 = .ok (.goto 4, 3) := by decide +kernel
theorem d_Md_mark_31 : decode k_Md_mark.1 31 = .ok (.iconst 0, 1) := by decide +kernel
theorem d_Md_mark_32 : decode k_Md_mark.1 32 = .ok (.bastore, 1) := by decide +kernel
theorem d_Md_mark_33 : decode k_Md_mark.1 33 = .ok (.iinc 2 1, 3) := by decide +kernel
theorem d_Md_mark_36 : decode k_Md_mark.1 36 = .ok (.goto (-34), 3) := by decide +kernel
theorem d_Md_mark_39 : decode k_Md_mark.1 39 = .ok (.return_, 1) := by decide +kernel
theorem d_Md_within_0 : decode k_Md_within.1 0 = .ok (.aload_n 0, 1) := by decide +kernel
theorem d_Md_within_1 : decode k_Md_within.1 1 = .ok (.getfield 7, 3) := by decide +kernel
theorem d_Md_within_4 : decode k_Md_within.1 4 = .ok (.iload_n 1, 1) := by decide +kernel
theorem d_Md_within_5 : decode k_Md_within.1 5 = .ok (.baload, 1) := by decide +kernel
theorem d_Md_within_6 : decode k_Md_within.1 6 = .ok (.ifCond .eq 12, 3) := by decide +kernel
theorem d_Md_within_9 : decode k_Md_within.1 9 = .ok (.aload_n 0, 1) := by decide +kernel
theorem d_Md_within_10 : decode k_Md_within.1 10 = .ok (.getfield 16, 3) := by decide +kernel
theorem d_Md_within_13 : decode k_Md_within.1 13 = .ok (.iload_n 1, 1) := by decide +kernel
theorem d_Md_within_14 : decode k_Md_within.1 14 = .ok (.iaload, 1) := by decide +kernel
theorem d_Md_within_15 : decode k_Md_within.1 15 = .ok (.goto 4, 3) := by decide +kernel
theorem d_Md_within_18 : decode k_Md_within.1 18 = .ok (.iconst (-1), 1) := by decide +kernel
theorem d_Md_within_19 : decode k_Md_within.1 19 = .ok (.istore_n 3, 1) := by decide +kernel
theorem d_Md_within_20 : decode k_Md_within.1 20 = .ok (.iload_n 3, 1) := by decide +kernel
theorem d_Md_within_21 : decode k_Md_within.1 21 = .ok (.ifCond .lt 18, 3) := by decide +kernel
theorem d_Md_within_24 : decode k_Md_within.1 24 = .ok (.iload_n 3, 1) := by decide +kernel
theorem d_Md_within_25 : decode k_Md_within.1 25 = .ok (.iload_n 2, 1) := by decide +kernel
theorem d_Md_within_26 : decode k_Md_within.1 26 = .ok (.if_icmp .eq 13, 3) := by decide +kernel
theorem d_Md_within_29 : decode k_Md_within.1 29 = .ok (.aload_n 0, 1) := by decide +kernel
theorem d_Md_within_30 : decode k_Md_within.1 30 = .ok (.getfield 16, 3) := by decide +kernel
theorem d_Md_within_33 : decode k_Md_within.1 33 = .ok (.iload_n 3, 1) := by decide +kernel
theorem d_Md_within_34 : decode k_Md_within.1 34 = .ok (.iaload, 1) := by decide +kernel
theorem d_Md_within_35 : decode k_Md_within.1 35 = .ok (.istore_n 3, 1) := by decide +kernel
theorem d_Md_within_36 : decode k_Md_within.1 36 = .ok (.goto (-16), 3) := by decide +kernel
theorem d_Md_within_39 : decode k_Md_within.1 39 = .ok (.iload_n 3, 1) := by decide +kernel
theorem d_Md_within_40 : decode k_Md_within.1 40 = .ok (.ifCond .lt 7, 3) := by decide +kernel
theorem d_Md_within_43 : decode k_Md_within.1 43 = .ok (.iconst 1, 1) := by decide +kernel
theorem d_Md_within_44 : decode k_Md_within.1 44 = .ok (.goto 4, 3) := by decide +kernel
theorem d_Md_within_47 : decode k_Md_within.1 47 = .ok (.iconst 0, 1) := by decide +kernel
theorem d_Md_within_48 : decode k_Md_within.1 48 = .ok (.ireturn, 1) := by decide +kernel
theorem d_Md_move_0 : decode k_Md_move.1 0 = .ok (.aload_n 0, 1) := by decide +kernel
theorem d_Md_move_1 : decode k_Md_move.1 1 = .ok (.iconst 0, 1) := by decide +kernel
theorem d_Md_move_2 : decode k_Md_move.1 2 = .ok (.putfield 85, 3) := by decide +kernel
theorem d_Md_move_5 : decode k_Md_move.1 5 = .ok (.iload_n 1, 1) := by decide +kernel
theorem d_Md_move_6 : decode k_Md_move.1 6 = .ok (.iconst 1, 1) := by decide +kernel
theorem d_Md_move_7 : decode k_Md_move.1 7 = .ok (.bipush 15, 2) := by decide +kernel
theorem d_Md_move_9 : decode k_Md_move.1 9 = .ok (.invokestatic 88, 3) := by decide +kernel
theorem d_Md_move_12 : decode k_Md_move.1 12 = .ok (.ifCond .eq 13, 3) := by decide +kernel
theorem d_Md_move_15 : decode k_Md_move.1 15 = .ok (.iload_n 2, 1) := by decide +kernel
theorem d_Md_move_16 : decode k_Md_move.1 16 = .ok (.iconst 0, 1) := by decide +kernel
theorem d_Md_move_17 : decode k_Md_move.1 17 = .ok (.bipush 15, 2) := by decide +kernel
theorem d_Md_move_19 : decode k_Md_move.1 19 = .ok (.invokestatic 88, 3) := by decide +kernel
theorem d_Md_move_22 : decode k_Md_move.1 22 = .ok (.ifCond .ne 9, 3) := by decide +kernel
theorem d_Md_move_25 : decode k_Md_move.1 25 = .ok (.aload_n 0, 1) := by decide +kernel
theorem d_Md_move_26 : decode k_Md_move.1 26 = .ok (.iconst 1, 1) := by decide +kernel
theorem d_Md_move_27 : decode k_Md_move.1 27 = .ok (.invokevirtual 107, 3) := by decide +kernel
theorem d_Md_move_30 : decode k_Md_move.1 30 = .ok (.ireturn, 1) := by decide +kernel
theorem d_Md_move_31 : decode k_Md_move.1 31 = .ok (.aload_n 0, 1) := by decide +kernel
theorem d_Md_move_32 : decode k_Md_move.1 32 = .ok (.getfield 7, 3) := by decide +kernel
theorem d_Md_move_35 : decode k_Md_move.1 35 = .ok (.iload_n 1, 1) := by decide +kernel
theorem d_Md_move_36 : decode k_Md_move.1 36 = .ok (.baload, 1) := by decide +kernel
theorem d_Md_move_37 : decode k_Md_move.1 37 = .ok (.ifCond .eq 11, 3) := by decide +kernel
theorem d_Md_move_40 : decode k_Md_move.1 40 = .ok (.aload_n 0, 1) := by decide +kernel
theorem d_Md_move_41 : decode k_Md_move.1 41 = .ok (.iload_n 2, 1) := by decide +kernel
theorem d_Md_move_42 : decode k_Md_move.1 42 = .ok (.invokevirtual 111, 3) := by decide +kernel
theorem d_Md_move_45 : decode k_Md_move.1 45 = .ok (.ifCond .ne 9, 3) := by decide +kernel
theorem d_Md_move_48 : decode k_Md_move.1 48 = .ok (.aload_n 0, 1) := by decide +kernel
theorem d_Md_move_49 : decode k_Md_move.1 49 = .ok (.iconst 2, 1) := by decide +kernel
theorem d_Md_move_50 : decode k_Md_move.1 50 = .ok (.invokevirtual 107, 3) := by decide +kernel
theorem d_Md_move_53 : decode k_Md_move.1 53 = .ok (.ireturn, 1) := by decide +kernel
theorem d_Md_move_54 : decode k_Md_move.1 54 = .ok (.iload_n 2, 1) := by decide +kernel
theorem d_Md_move_55 : decode k_Md_move.1 55 = .ok (.iload_n 1, 1) := by decide +kernel
theorem d_Md_move_56 : decode k_Md_move.1 56 = .ok (.if_icmp .eq 12, 3) := by decide +kernel
theorem d_Md_move_59 : decode k_Md_move.1 59 = .ok (.aload_n 0, 1) := by decide +kernel
theorem d_Md_move_60 : decode k_Md_move.1 60 = .ok (.iload_n 2, 1) := by decide +kernel
theorem d_Md_move_61 : decode k_Md_move.1 61 = .ok (.iload_n 1, 1) := by decide +kernel
theorem d_Md_move_62 : decode k_Md_move.1 62 = .ok (.invokevirtual 125, 3) := by decide +kernel
theorem d_Md_move_65 : decode k_Md_move.1 65 = .ok (.ifCond .eq 9, 3) := by decide +kernel
theorem d_Md_move_68 : decode k_Md_move.1 68 = .ok (.aload_n 0, 1) := by decide +kernel
theorem d_Md_move_69 : decode k_Md_move.1 69 = .ok (.iconst 3, 1) := by decide +kernel
theorem d_Md_move_70 : decode k_Md_move.1 70 = .ok (.invokevirtual 107, 3) := by decide +kernel
theorem d_Md_move_73 : decode k_Md_move.1 73 = .ok (.ireturn, 1) := by decide +kernel
theorem d_Md_move_74 : decode k_Md_move.1 74 = .ok (.aload_n 0, 1) := by decide +kernel
theorem d_Md_move_75 : decode k_Md_move.1 75 = .ok (.getfield 16, 3) := by decide +kernel
theorem d_Md_move_78 : decode k_Md_move.1 78 = .ok (.iload_n 1, 1) := by decide +kernel
theorem d_Md_move_79 : decode k_Md_move.1 79 = .ok (.iaload, 1) := by decide +kernel
theorem d_Md_move_80 : decode k_Md_move.1 80 = .ok (.istore_n 3, 1) := by decide +kernel
theorem d_Md_move_81 : decode k_Md_move.1 81 = .ok (.aload_n 0, 1) := by decide +kernel
theorem d_Md_move_82 : decode k_Md_move.1 82 = .ok (.getfield 16, 3) := by decide +kernel
theorem d_Md_move_85 : decode k_Md_move.1 85 = .ok (.iload_n 1, 1) := by decide +kernel
theorem d_Md_move_86 : decode k_Md_move.1 86 = .ok (.iload_n 2, 1) := by decide +kernel
theorem d_Md_move_87 : decode k_Md_move.1 87 = .ok (.iastore, 1) := by decide +kernel
theorem d_Md_move_88 : decode k_Md_move.1 88 = .ok (.iload_n 3, 1) := by decide +kernel
theorem d_Md_move_89 : decode k_Md_move.1 89 = .ok (.iload_n 2, 1) := by decide +kernel
theorem d_Md_move_90 : decode k_Md_move.1 90 = .ok (.if_icmp .eq 7, 3) := by decide +kernel
theorem d_Md_move_93 : decode k_Md_move.1 93 = .ok (.iconst 1, 1) := by decide +kernel
theorem d_Md_move_94 : decode k_Md_move.1 94 = .ok (.goto 4, 3) := by decide +kernel
theorem d_Md_move_97 : decode k_Md_move.1 97 = .ok (.iconst 0, 1) := by decide +kernel
theorem d_Md_move_98 : decode k_Md_move.1 98 = .ok (.ireturn, 1) := by decide +kernel
theorem d_Md_work_0 : decode k_Md_work.1 0 = .ok (.aload_n 0, 1) := by decide +kernel
theorem d_Md_work_1 : decode k_Md_work.1 1 = .ok (.iconst 0, 1) := by decide +kernel
theorem d_Md_work_2 : decode k_Md_work.1 2 = .ok (.putfield 85, 3) := by decide +kernel
theorem d_Md_work_5 : decode k_Md_work.1 5 = .ok (.iload_n 1, 1) := by decide +kernel
theorem d_Md_work_6 : decode k_Md_work.1 6 = .ok (.iconst 1, 1) := by decide +kernel
theorem d_Md_work_7 : decode k_Md_work.1 7 = .ok (.bipush 8, 2) := by decide +kernel
theorem d_Md_work_9 : decode k_Md_work.1 9 = .ok (.invokestatic 88, 3) := by decide +kernel
theorem d_Md_work_12 : decode k_Md_work.1 12 = .ok (.ifCond .ne 9, 3) := by decide +kernel
theorem d_Md_work_15 : decode k_Md_work.1 15 = .ok (.aload_n 0, 1) := by decide +kernel
theorem d_Md_work_16 : decode k_Md_work.1 16 = .ok (.iconst 1, 1) := by decide +kernel
theorem d_Md_work_17 : decode k_Md_work.1 17 = .ok (.invokevirtual 107, 3) := by decide +kernel
theorem d_Md_work_20 : decode k_Md_work.1 20 = .ok (.ireturn, 1) := by decide +kernel
theorem d_Md_work_21 : decode k_Md_work.1 21 = .ok (.aload_n 0, 1) := by decide +kernel
theorem d_Md_work_22 : decode k_Md_work.1 22 = .ok (.getfield 95, 3) := by decide +kernel
theorem d_Md_work_25 : decode k_Md_work.1 25 = .ok (.ifCond .eq 9, 3) := by decide +kernel
theorem d_Md_work_28 : decode k_Md_work.1 28 = .ok (.aload_n 0, 1) := by decide +kernel
theorem d_Md_work_29 : decode k_Md_work.1 29 = .ok (.iconst 2, 1) := by decide +kernel
theorem d_Md_work_30 : decode k_Md_work.1 30 = .ok (.invokevirtual 107, 3) := by decide +kernel
theorem d_Md_work_33 : decode k_Md_work.1 33 = .ok (.ireturn, 1) := by decide +kernel
theorem d_Md_work_34 : decode k_Md_work.1 34 = .ok (.iconst 0, 1) := by decide +kernel
theorem d_Md_work_35 : decode k_Md_work.1 35 = .ok (.istore_n 2, 1) := by decide +kernel
theorem d_Md_work_36 : decode k_Md_work.1 36 = .ok (.iload_n 2, 1) := by decide +kernel
theorem d_Md_work_37 : decode k_Md_work.1 37 = .ok (.iload_n 1, 1) := by decide +kernel
theorem d_Md_work_38 : decode k_Md_work.1 38 = .ok (.if_icmp .ge 53, 3) := by decide +kernel
theorem d_Md_work_41 : decode k_Md_work.1 41 = .ok (.aload_n 0, 1) := by decide +kernel
theorem d_Md_work_42 : decode k_Md_work.1 42 = .ok (.getfield 92, 3) := by decide +kernel
theorem d_Md_work_45 : decode k_Md_work.1 45 = .ok (.ifCond .le 46, 3) := by decide +kernel
theorem d_Md_work_48 : decode k_Md_work.1 48 = .ok (.aload_n 0, 1) := by decide +kernel
theorem d_Md_work_49 : decode k_Md_work.1 49 = .ok (.getfield 32, 3) := by decide +kernel
theorem d_Md_work_52 : decode k_Md_work.1 52 = .ok (.iconst 0, 1) := by decide +kernel
theorem d_Md_work_53 : decode k_Md_work.1 53 = .ok (.iaload, 1) := by decide +kernel
theorem d_Md_work_54 : decode k_Md_work.1 54 = .ok (.istore_n 3, 1) := by decide +kernel
theorem d_Md_work_55 : decode k_Md_work.1 55 = .ok (.aload_n 0, 1) := by decide +kernel
theorem d_Md_work_56 : decode k_Md_work.1 56 = .ok (.getfield 29, 3) := by decide +kernel
theorem d_Md_work_59 : decode k_Md_work.1 59 = .ok (.iconst 0, 1) := by decide +kernel
theorem d_Md_work_60 : decode k_Md_work.1 60 = .ok (.iaload, 1) := by decide +kernel
theorem d_Md_work_61 : decode k_Md_work.1 61 = .ok (.iconst 3, 1) := by decide +kernel
theorem d_Md_work_62 : decode k_Md_work.1 62 = .ok (.if_icmp .ne 13, 3) := by decide +kernel
theorem d_Md_work_65 : decode k_Md_work.1 65 = .ok (.aload_n 0, 1) := by decide +kernel
theorem d_Md_work_66 : decode k_Md_work.1 66 = .ok (.getfield 35, 3) := by decide +kernel
theorem d_Md_work_69 : decode k_Md_work.1 69 = .ok (.iload_n 3, 1) := by decide +kernel
theorem d_Md_work_70 : decode k_Md_work.1 70 = .ok (.iconst 0, 1) := by decide +kernel
theorem d_Md_work_71 : decode k_Md_work.1 71 = .ok (.bastore, 1) := by decide +kernel
theorem d_Md_work_72 : decode k_Md_work.1 72 = .ok (.goto 8, 3) := by decide +kernel
theorem d_Md_work_75 : decode k_Md_work.1 75 = .ok (.aload_n 0, 1) := by decide +kernel
theorem d_Md_work_76 : decode k_Md_work.1 76 = .ok (.iload_n 3, 1) := by decide +kernel
theorem d_Md_work_77 : decode k_Md_work.1 77 = .ok (.invokevirtual 135, 3) := by decide +kernel
theorem d_Md_work_80 : decode k_Md_work.1 80 = .ok (.aload_n 0, 1) := by decide +kernel
theorem d_Md_work_81 : decode k_Md_work.1 81 = .ok (.iconst 0, 1) := by decide +kernel
theorem d_Md_work_82 : decode k_Md_work.1 82 = .ok (.invokevirtual 103, 3) := by decide +kernel
theorem d_Md_work_85 : decode k_Md_work.1 85 = .ok (.iinc 2 1, 3) := by decide +kernel
theorem d_Md_work_88 : decode k_Md_work.1 88 = .ok (.goto (-52), 3) := by decide +kernel
theorem d_Md_work_91 : decode k_Md_work.1 91 = .ok (.iload_n 2, 1) := by decide +kernel
theorem d_Md_work_92 : decode k_Md_work.1 92 = .ok (.ireturn, 1) := by decide +kernel
theorem d_Md_read_0 : decode k_Md_read.1 0 = .ok (.bipush 60, 2) := by decide +kernel
theorem d_Md_read_2 : decode k_Md_read.1 2 = .ok (.iload_n 1, 1) := by decide +kernel
theorem d_Md_read_3 : decode k_Md_read.1 3 = .ok (.imul, 1) := by decide +kernel
theorem d_Md_read_4 : decode k_Md_read.1 4 = .ok (.istore_n 2, 1) := by decide +kernel
theorem d_Md_read_5 : decode k_Md_read.1 5 = .ok (.iload_n 2, 1) := by decide +kernel
theorem d_Md_read_6 : decode k_Md_read.1 6 = .ok (.aload_n 0, 1) := by decide +kernel
theorem d_Md_read_7 : decode k_Md_read.1 7 = .ok (.getfield 23, 3) := by decide +kernel
theorem d_Md_read_10 : decode k_Md_read.1 10 = .ok (.iload_n 1, 1) := by decide +kernel
theorem d_Md_read_11 : decode k_Md_read.1 11 = .ok (.iaload, 1) := by decide +kernel
theorem d_Md_read_12 : decode k_Md_read.1 12 = .ok (.iadd, 1) := by decide +kernel
theorem d_Md_read_13 : decode k_Md_read.1 13 = .ok (.istore_n 3, 1) := by decide +kernel
theorem d_Md_read_14 : decode k_Md_read.1 14 = .ok (.iload_n 2, 1) := by decide +kernel
theorem d_Md_read_15 : decode k_Md_read.1 15 = .ok (.istore 4, 2) := by decide +kernel
theorem d_Md_read_17 : decode k_Md_read.1 17 = .ok (.aload_n 0, 1) := by decide +kernel
theorem d_Md_read_18 : decode k_Md_read.1 18 = .ok (.getfield 23, 3) := by decide +kernel
theorem d_Md_read_21 : decode k_Md_read.1 21 = .ok (.iload_n 1, 1) := by decide +kernel
theorem d_Md_read_22 : decode k_Md_read.1 22 = .ok (.iaload, 1) := by decide +kernel
theorem d_Md_read_23 : decode k_Md_read.1 23 = .ok (.ifCond .le 38, 3) := by decide +kernel
theorem d_Md_read_26 : decode k_Md_read.1 26 = .ok (.aload_n 0, 1) := by decide +kernel
theorem d_Md_read_27 : decode k_Md_read.1 27 = .ok (.getfield 20, 3) := by decide +kernel
theorem d_Md_read_30 : decode k_Md_read.1 30 = .ok (.iload_n 2, 1) := by decide +kernel
theorem d_Md_read_31 : decode k_Md_read.1 31 = .ok (.iaload, 1) := by decide +kernel
theorem d_Md_read_32 : decode k_Md_read.1 32 = .ok (.bipush 35, 2) := by decide +kernel
theorem d_Md_read_34 : decode k_Md_read.1 34 = .ok (.if_icmp .ne 27, 3) := by decide +kernel
theorem d_Md_read_37 : decode k_Md_read.1 37 = .ok (.iload 4, 2) := by decide +kernel
theorem d_Md_read_39 : decode k_Md_read.1 39 = .ok (.iload_n 3, 1) := by decide +kernel
theorem d_Md_read_40 : decode k_Md_read.1 40 = .ok (.if_icmp .ge 21, 3) := by decide +kernel
theorem d_Md_read_43 : decode k_Md_read.1 43 = .ok (.aload_n 0, 1) := by decide +kernel
theorem d_Md_read_44 : decode k_Md_read.1 44 = .ok (.getfield 20, 3) := by decide +kernel
theorem d_Md_read_47 : decode k_Md_read.1 47 = .ok (.iload 4, 2) := by decide +kernel
theorem d_Md_read_49 : decode k_Md_read.1 49 = .ok (.iaload, 1) := by decide +kernel
theorem d_Md_read_50 : decode k_Md_read.1 50 = .ok (.bipush 59, 2) := by decide +kernel
theorem d_Md_read_52 : decode k_Md_read.1 52 = .ok (.if_icmp .eq 9, 3) := by decide +kernel
theorem d_Md_read_55 : decode k_Md_read.1 55 = .ok (.iinc 4 1, 3) := by decide +kernel
theorem d_Md_read_58 : decode k_Md_read.1 58 = .ok (.goto (-21), 3) := by decide +kernel
theorem d_Md_read_61 : decode k_Md_read.1 61 = .ok (.iconst 0, 1) := by decide +kernel
theorem d_Md_read_62 : decode k_Md_read.1 62 = .ok (.istore 5, 2) := by decide +kernel
theorem d_Md_read_64 : decode k_Md_read.1 64 = .ok (.iload_n 2, 1) := by decide +kernel
theorem d_Md_read_65 : decode k_Md_read.1 65 = .ok (.istore 6, 2) := by decide +kernel
theorem d_Md_read_67 : decode k_Md_read.1 67 = .ok (.iload 6, 2) := by decide +kernel
theorem d_Md_read_69 : decode k_Md_read.1 69 = .ok (.iload_n 3, 1) := by decide +kernel
theorem d_Md_read_70 : decode k_Md_read.1 70 = .ok (.if_icmp .ge 136, 3) := by decide +kernel
theorem d_Md_read_73 : decode k_Md_read.1 73 = .ok (.iload 6, 2) := by decide +kernel
theorem d_Md_read_75 : decode k_Md_read.1 75 = .ok (.istore 7, 2) := by decide +kernel
theorem d_Md_read_77 : decode k_Md_read.1 77 = .ok (.lconst 0, 1) := by decide +kernel
theorem d_Md_read_78 : decode k_Md_read.1 78 = .ok (.lstore 8, 2) := by decide +kernel
theorem d_Md_read_80 : decode k_Md_read.1 80 = .ok (.iconst 0, 1) := by decide +kernel
theorem d_Md_read_81 : decode k_Md_read.1 81 = .ok (.istore 10, 2) := by decide +kernel
theorem d_Md_read_83 : decode k_Md_read.1 83 = .ok (.iload 6, 2) := by decide +kernel
theorem d_Md_read_85 : decode k_Md_read.1 85 = .ok (.iload_n 3, 1) := by decide +kernel
theorem d_Md_read_86 : decode k_Md_read.1 86 = .ok (.if_icmp .ge 51, 3) := by decide +kernel
theorem d_Md_read_89 : decode k_Md_read.1 89 = .ok (.aload_n 0, 1) := by decide +kernel
theorem d_Md_read_90 : decode k_Md_read.1 90 = .ok (.getfield 20, 3) := by decide +kernel
theorem d_Md_read_93 : decode k_Md_read.1 93 = .ok (.iload 6, 2) := by decide +kernel
theorem d_Md_read_95 : decode k_Md_read.1 95 = .ok (.iaload, 1) := by decide +kernel
theorem d_Md_read_96 : decode k_Md_read.1 96 = .ok (.invokestatic 129, 3) := by decide +kernel
theorem d_Md_read_99 : decode k_Md_read.1 99 = .ok (.ifCond .le 38, 3) := by decide +kernel
theorem d_Md_read_102 : decode k_Md_read.1 102 = .ok (.iload 10, 2) := by decide +kernel
theorem d_Md_read_104 : decode k_Md_read.1 104 = .ok (.bipush 8, 2) := by decide +kernel
theorem d_Md_read_106 : decode k_Md_read.1 106 = .ok (.if_icmp .ge 25, 3) := by decide +kernel
theorem d_Md_read_109 : decode k_Md_read.1 109 = .ok (.lload 8, 2) := by decide +kernel
theorem d_Md_read_111 : decode k_Md_read.1 111 = .ok (.bipush 8, 2) := by decide +kernel
theorem d_Md_read_113 : decode k_Md_read.1 113 = .ok (.lshl, 1) := by decide +kernel
theorem d_Md_read_114 : decode k_Md_read.1 114 = .ok (.aload_n 0, 1) := by decide +kernel
theorem d_Md_read_115 : decode k_Md_read.1 115 = .ok (.getfield 20, 3) := by decide +kernel
theorem d_Md_read_118 : decode k_Md_read.1 118 = .ok (.iload 6, 2) := by decide +kernel
theorem d_Md_read_120 : decode k_Md_read.1 120 = .ok (.iaload, 1) := by decide +kernel
theorem d_Md_read_121 : decode k_Md_read.1 121 = .ok (.invokestatic 129, 3) := by decide +kernel
theorem d_Md_read_124 : decode k_Md_read.1 124 = .ok (.i2l, 1) := by decide +kernel
theorem d_Md_read_125 : decode k_Md_read.1 125 = .ok (.lor, 1) := by decide +kernel
theorem d_Md_read_126 : decode k_Md_read.1 126 = .ok (.lstore 8, 2) := by decide +kernel
theorem d_Md_read_128 : decode k_Md_read.1 128 = .ok (.iinc 10 1, 3) := by decide +kernel
theorem d_Md_read_131 : decode k_Md_read.1 131 = .ok (.iinc 6 1, 3) := by decide +kernel
theorem d_Md_read_134 : decode k_Md_read.1 134 = .ok (.goto (-51), 3) := by decide +kernel
theorem d_Md_read_137 : decode k_Md_read.1 137 = .ok (.iload 10, 2) := by decide +kernel
theorem d_Md_read_139 : decode k_Md_read.1 139 = .ok (.ifCond .ne 9, 3) := by decide +kernel
theorem d_Md_read_142 : decode k_Md_read.1 142 = .ok (.iinc 6 1, 3) := by decide +kernel
theorem d_Md_read_145 : decode k_Md_read.1 145 = .ok (.goto (-78), 3) := by decide +kernel
theorem d_Md_read_148 : decode k_Md_read.1 148 = .ok (.aload_n 0, 1) := by decide +kernel
theorem d_Md_read_149 : decode k_Md_read.1 149 = .ok (.getfield 41, 3) := by decide +kernel
theorem d_Md_read_152 : decode k_Md_read.1 152 = .ok (.bipush 30, 2) := by decide +kernel
theorem d_Md_read_154 : decode k_Md_read.1 154 = .ok (.iload_n 1, 1) := by decide +kernel
theorem d_Md_read_155 : decode k_Md_read.1 155 = .ok (.imul, 1) := by decide +kernel
theorem d_Md_read_156 : decode k_Md_read.1 156 = .ok (.iload 5, 2) := by decide +kernel
theorem d_Md_read_158 : decode k_Md_read.1 158 = .ok (.iadd, 1) := by decide +kernel
theorem d_Md_read_159 : decode k_Md_read.1 159 = .ok (.lload 8, 2) := by decide +kernel
theorem d_Md_read_161 : decode k_Md_read.1 161 = .ok (.lastore, 1) := by decide +kernel
theorem d_Md_read_162 : decode k_Md_read.1 162 = .ok (.aload_n 0, 1) := by decide +kernel
theorem d_Md_read_163 : decode k_Md_read.1 163 = .ok (.getfield 45, 3) := by decide +kernel
theorem d_Md_read_166 : decode k_Md_read.1 166 = .ok (.bipush 30, 2) := by decide +kernel
theorem d_Md_read_168 : decode k_Md_read.1 168 = .ok (.iload_n 1, 1) := by decide +kernel
theorem d_Md_read_169 : decode k_Md_read.1 169 = .ok (.imul, 1) := by decide +kernel
theorem d_Md_read_170 : decode k_Md_read.1 170 = .ok (.iload 5, 2) := by decide +kernel
theorem d_Md_read_172 : decode k_Md_read.1 172 = .ok (.iadd, 1) := by decide +kernel
theorem d_Md_read_173 : decode k_Md_read.1 173 = .ok (.iload 10, 2) := by decide +kernel
theorem d_Md_read_175 : decode k_Md_read.1 175 = .ok (.iastore, 1) := by decide +kernel
theorem d_Md_read_176 : decode k_Md_read.1 176 = .ok (.aload_n 0, 1) := by decide +kernel
theorem d_Md_read_177 : decode k_Md_read.1 177 = .ok (.getfield 48, 3) := by decide +kernel
theorem d_Md_read_180 : decode k_Md_read.1 180 = .ok (.bipush 30, 2) := by decide +kernel
theorem d_Md_read_182 : decode k_Md_read.1 182 = .ok (.iload_n 1, 1) := by decide +kernel
theorem d_Md_read_183 : decode k_Md_read.1 183 = .ok (.imul, 1) := by decide +kernel
theorem d_Md_read_184 : decode k_Md_read.1 184 = .ok (.iload 5, 2) := by decide +kernel
theorem d_Md_read_186 : decode k_Md_read.1 186 = .ok (.iadd, 1) := by decide +kernel
theorem d_Md_read_187 : decode k_Md_read.1 187 = .ok (.iload 7, 2) := by decide +kernel
theorem d_Md_read_189 : decode k_Md_read.1 189 = .ok (.iload 4, 2) := by decide +kernel
theorem d_Md_read_191 : decode k_Md_read.1 191 = .ok (.if_icmp .ge 7, 3) := by decide +kernel
theorem d_Md_read_194 : decode k_Md_read.1 194 = .ok (.iconst 3, 1) := by decide +kernel
theorem d_Md_read_195 : decode k_Md_read.1 195 = .ok (.goto 4, 3) := by decide +kernel
theorem d_Md_read_198 : decode k_Md_read.1 198 = .ok (.iconst 1, 1) := by decide +kernel
theorem d_Md_read_199 : decode k_Md_read.1 199 = .ok (.iastore, 1) := by decide +kernel
theorem d_Md_read_200 : decode k_Md_read.1 200 = .ok (.iinc 5 1, 3) := by decide +kernel
theorem d_Md_read_203 : decode k_Md_read.1 203 = .ok (.goto (-136), 3) := by decide +kernel
theorem d_Md_read_206 : decode k_Md_read.1 206 = .ok (.aload_n 0, 1) := by decide +kernel
theorem d_Md_read_207 : decode k_Md_read.1 207 = .ok (.getfield 38, 3) := by decide +kernel
theorem d_Md_read_210 : decode k_Md_read.1 210 = .ok (.iload_n 1, 1) := by decide +kernel
theorem d_Md_read_211 : decode k_Md_read.1 211 = .ok (.iload 5, 2) := by decide +kernel
theorem d_Md_read_213 : decode k_Md_read.1 213 = .ok (.iastore, 1) := by decide +kernel
theorem d_Md_read_214 : decode k_Md_read.1 214 = .ok (.aload_n 0, 1) := by decide +kernel
theorem d_Md_read_215 : decode k_Md_read.1 215 = .ok (.getfield 35, 3) := by decide +kernel
theorem d_Md_read_218 : decode k_Md_read.1 218 = .ok (.iload_n 1, 1) := by decide +kernel
theorem d_Md_read_219 : decode k_Md_read.1 219 = .ok (.iconst 1, 1) := by decide +kernel
theorem d_Md_read_220 : decode k_Md_read.1 220 = .ok (.bastore, 1) := by decide +kernel
theorem d_Md_read_221 : decode k_Md_read.1 221 = .ok (.aload_n 0, 1) := by decide +kernel
theorem d_Md_read_222 : decode k_Md_read.1 222 = .ok (.dup, 1) := by decide +kernel
theorem d_Md_read_223 : decode k_Md_read.1 223 = .ok (.getfield 132, 3) := by decide +kernel
theorem d_Md_read_226 : decode k_Md_read.1 226 = .ok (.iconst 1, 1) := by decide +kernel
theorem d_Md_read_227 : decode k_Md_read.1 227 = .ok (.iadd, 1) := by decide +kernel
theorem d_Md_read_228 : decode k_Md_read.1 228 = .ok (.putfield 132, 3) := by decide +kernel
theorem d_Md_read_231 : decode k_Md_read.1 231 = .ok (.return_, 1) := by decide +kernel
theorem d_Md_letter_0 : decode k_Md_letter.1 0 = .ok (.iload_n 0, 1) := by decide +kernel
theorem d_Md_letter_1 : decode k_Md_letter.1 1 = .ok (.bipush 97, 2) := by decide +kernel
theorem d_Md_letter_3 : decode k_Md_letter.1 3 = .ok (.if_icmp .lt 11, 3) := by decide +kernel
theorem d_Md_letter_6 : decode k_Md_letter.1 6 = .ok (.iload_n 0, 1) := by decide +kernel
theorem d_Md_letter_7 : decode k_Md_letter.1 7 = .ok (.bipush 122, 2) := by decide +kernel
theorem d_Md_letter_9 : decode k_Md_letter.1 9 = .ok (.if_icmp .gt 5, 3) := by decide +kernel
theorem d_Md_letter_12 : decode k_Md_letter.1 12 = .ok (.iload_n 0, 1) := by decide +kernel
theorem d_Md_letter_13 : decode k_Md_letter.1 13 = .ok (.ireturn, 1) := by decide +kernel
theorem d_Md_letter_14 : decode k_Md_letter.1 14 = .ok (.iload_n 0, 1) := by decide +kernel
theorem d_Md_letter_15 : decode k_Md_letter.1 15 = .ok (.bipush 65, 2) := by decide +kernel
theorem d_Md_letter_17 : decode k_Md_letter.1 17 = .ok (.if_icmp .lt 16, 3) := by decide +kernel
theorem d_Md_letter_20 : decode k_Md_letter.1 20 = .ok (.iload_n 0, 1) := by decide +kernel
theorem d_Md_letter_21 : decode k_Md_letter.1 21 = .ok (.bipush 90, 2) := by decide +kernel
theorem d_Md_letter_23 : decode k_Md_letter.1 23 = .ok (.if_icmp .gt 10, 3) := by decide +kernel
theorem d_Md_letter_26 : decode k_Md_letter.1 26 = .ok (.iload_n 0, 1) := by decide +kernel
theorem d_Md_letter_27 : decode k_Md_letter.1 27 = .ok (.bipush 32, 2) := by decide +kernel
theorem d_Md_letter_29 : decode k_Md_letter.1 29 = .ok (.iadd, 1) := by decide +kernel
theorem d_Md_letter_30 : decode k_Md_letter.1 30 = .ok (.goto 4, 3) := by decide +kernel
theorem d_Md_letter_33 : decode k_Md_letter.1 33 = .ok (.iconst 0, 1) := by decide +kernel
theorem d_Md_letter_34 : decode k_Md_letter.1 34 = .ok (.ireturn, 1) := by decide +kernel
theorem d_Md_rescan_0 : decode k_Md_rescan.1 0 = .ok (.aload_n 0, 1) := by decide +kernel
theorem d_Md_rescan_1 : decode k_Md_rescan.1 1 = .ok (.iconst 0, 1) := by decide +kernel
theorem d_Md_rescan_2 : decode k_Md_rescan.1 2 = .ok (.putfield 85, 3) := by decide +kernel
theorem d_Md_rescan_5 : decode k_Md_rescan.1 5 = .ok (.iconst 0, 1) := by decide +kernel
theorem d_Md_rescan_6 : decode k_Md_rescan.1 6 = .ok (.istore_n 1, 1) := by decide +kernel
theorem d_Md_rescan_7 : decode k_Md_rescan.1 7 = .ok (.iconst 0, 1) := by decide +kernel
theorem d_Md_rescan_8 : decode k_Md_rescan.1 8 = .ok (.istore_n 2, 1) := by decide +kernel
theorem d_Md_rescan_9 : decode k_Md_rescan.1 9 = .ok (.iload_n 2, 1) := by decide +kernel
theorem d_Md_rescan_10 : decode k_Md_rescan.1 10 = .ok (.bipush 16, 2) := by decide +kernel
theorem d_Md_rescan_12 : decode k_Md_rescan.1 12 = .ok (.if_icmp .ge 35, 3) := by decide +kernel
theorem d_Md_rescan_15 : decode k_Md_rescan.1 15 = .ok (.aload_n 0, 1) := by decide +kernel
theorem d_Md_rescan_16 : decode k_Md_rescan.1 16 = .ok (.getfield 35, 3) := by decide +kernel
theorem d_Md_rescan_19 : decode k_Md_rescan.1 19 = .ok (.iload_n 2, 1) := by decide +kernel
theorem d_Md_rescan_20 : decode k_Md_rescan.1 20 = .ok (.iconst 0, 1) := by decide +kernel
theorem d_Md_rescan_21 : decode k_Md_rescan.1 21 = .ok (.bastore, 1) := by decide +kernel
theorem d_Md_rescan_22 : decode k_Md_rescan.1 22 = .ok (.aload_n 0, 1) := by decide +kernel
theorem d_Md_rescan_23 : decode k_Md_rescan.1 23 = .ok (.iload_n 2, 1) := by decide +kernel
theorem d_Md_rescan_24 : decode k_Md_rescan.1 24 = .ok (.invokevirtual 119, 3) := by decide +kernel
theorem d_Md_rescan_27 : decode k_Md_rescan.1 27 = .ok (.ifCond .ne 6, 3) := by decide +kernel
theorem d_Md_rescan_30 : decode k_Md_rescan.1 30 = .ok (.goto 11, 3) := by decide +kernel
theorem d_Md_rescan_33 : decode k_Md_rescan.1 33 = .ok (.aload_n 0, 1) := by decide +kernel
theorem d_Md_rescan_34 : decode k_Md_rescan.1 34 = .ok (.iload_n 2, 1) := by decide +kernel
theorem d_Md_rescan_35 : decode k_Md_rescan.1 35 = .ok (.invokevirtual 135, 3) := by decide +kernel
theorem d_Md_rescan_38 : decode k_Md_rescan.1 38 = .ok (.iinc 1 1, 3) := by decide +kernel
theorem d_Md_rescan_41 : decode k_Md_rescan.1 41 = .ok (.iinc 2 1, 3) := by decide +kernel
theorem d_Md_rescan_44 : decode k_Md_rescan.1 44 = .ok (.goto (-35), 3) := by decide +kernel
theorem d_Md_rescan_47 : decode k_Md_rescan.1 47 = .ok (.aload_n 0, 1) := by decide +kernel
theorem d_Md_rescan_48 : decode k_Md_rescan.1 48 = .ok (.iconst 0, 1) := by decide +kernel
theorem d_Md_rescan_49 : decode k_Md_rescan.1 49 = .ok (.putfield 95, 3) := by decide +kernel
theorem d_Md_rescan_52 : decode k_Md_rescan.1 52 = .ok (.aload_n 0, 1) := by decide +kernel
theorem d_Md_rescan_53 : decode k_Md_rescan.1 53 = .ok (.iconst 0, 1) := by decide +kernel
theorem d_Md_rescan_54 : decode k_Md_rescan.1 54 = .ok (.putfield 92, 3) := by decide +kernel
theorem d_Md_rescan_57 : decode k_Md_rescan.1 57 = .ok (.iload_n 1, 1) := by decide +kernel
theorem d_Md_rescan_58 : decode k_Md_rescan.1 58 = .ok (.ireturn, 1) := by decide +kernel
theorem d_Md_type_0 : decode k_Md_type.1 0 = .ok (.aload_n 0, 1) := by decide +kernel
theorem d_Md_type_1 : decode k_Md_type.1 1 = .ok (.iconst 0, 1) := by decide +kernel
theorem d_Md_type_2 : decode k_Md_type.1 2 = .ok (.putfield 85, 3) := by decide +kernel
theorem d_Md_type_5 : decode k_Md_type.1 5 = .ok (.iload_n 1, 1) := by decide +kernel
theorem d_Md_type_6 : decode k_Md_type.1 6 = .ok (.bipush 32, 2) := by decide +kernel
theorem d_Md_type_8 : decode k_Md_type.1 8 = .ok (.bipush 126, 2) := by decide +kernel
theorem d_Md_type_10 : decode k_Md_type.1 10 = .ok (.invokestatic 88, 3) := by decide +kernel
theorem d_Md_type_13 : decode k_Md_type.1 13 = .ok (.ifCond .ne 9, 3) := by decide +kernel
theorem d_Md_type_16 : decode k_Md_type.1 16 = .ok (.aload_n 0, 1) := by decide +kernel
theorem d_Md_type_17 : decode k_Md_type.1 17 = .ok (.iconst 1, 1) := by decide +kernel
theorem d_Md_type_18 : decode k_Md_type.1 18 = .ok (.invokevirtual 107, 3) := by decide +kernel
theorem d_Md_type_21 : decode k_Md_type.1 21 = .ok (.ireturn, 1) := by decide +kernel
theorem d_Md_type_22 : decode k_Md_type.1 22 = .ok (.aload_n 0, 1) := by decide +kernel
theorem d_Md_type_23 : decode k_Md_type.1 23 = .ok (.getfield 138, 3) := by decide +kernel
theorem d_Md_type_26 : decode k_Md_type.1 26 = .ok (.bipush 40, 2) := by decide +kernel
theorem d_Md_type_28 : decode k_Md_type.1 28 = .ok (.if_icmp .ne 9, 3) := by decide +kernel
theorem d_Md_type_31 : decode k_Md_type.1 31 = .ok (.aload_n 0, 1) := by decide +kernel
theorem d_Md_type_32 : decode k_Md_type.1 32 = .ok (.iconst 2, 1) := by decide +kernel
theorem d_Md_type_33 : decode k_Md_type.1 33 = .ok (.invokevirtual 107, 3) := by decide +kernel
theorem d_Md_type_36 : decode k_Md_type.1 36 = .ok (.ireturn, 1) := by decide +kernel
theorem d_Md_type_37 : decode k_Md_type.1 37 = .ok (.aload_n 0, 1) := by decide +kernel
theorem d_Md_type_38 : decode k_Md_type.1 38 = .ok (.getfield 51, 3) := by decide +kernel
theorem d_Md_type_41 : decode k_Md_type.1 41 = .ok (.aload_n 0, 1) := by decide +kernel
theorem d_Md_type_42 : decode k_Md_type.1 42 = .ok (.getfield 138, 3) := by decide +kernel
theorem d_Md_type_45 : decode k_Md_type.1 45 = .ok (.iload_n 1, 1) := by decide +kernel
theorem d_Md_type_46 : decode k_Md_type.1 46 = .ok (.iastore, 1) := by decide +kernel
theorem d_Md_type_47 : decode k_Md_type.1 47 = .ok (.aload_n 0, 1) := by decide +kernel
theorem d_Md_type_48 : decode k_Md_type.1 48 = .ok (.dup, 1) := by decide +kernel
theorem d_Md_type_49 : decode k_Md_type.1 49 = .ok (.getfield 138, 3) := by decide +kernel
theorem d_Md_type_52 : decode k_Md_type.1 52 = .ok (.iconst 1, 1) := by decide +kernel
theorem d_Md_type_53 : decode k_Md_type.1 53 = .ok (.iadd, 1) := by decide +kernel
theorem d_Md_type_54 : decode k_Md_type.1 54 = .ok (.putfield 138, 3) := by decide +kernel
theorem d_Md_type_57 : decode k_Md_type.1 57 = .ok (.aload_n 0, 1) := by decide +kernel
theorem d_Md_type_58 : decode k_Md_type.1 58 = .ok (.getfield 138, 3) := by decide +kernel
theorem d_Md_type_61 : decode k_Md_type.1 61 = .ok (.ireturn, 1) := by decide +kernel
theorem d_Md_search_0 : decode k_Md_search.1 0 = .ok (.aload_n 0, 1) := by decide +kernel
theorem d_Md_search_1 : decode k_Md_search.1 1 = .ok (.iconst 0, 1) := by decide +kernel
theorem d_Md_search_2 : decode k_Md_search.1 2 = .ok (.putfield 85, 3) := by decide +kernel
theorem d_Md_search_5 : decode k_Md_search.1 5 = .ok (.aload_n 0, 1) := by decide +kernel
theorem d_Md_search_6 : decode k_Md_search.1 6 = .ok (.iload_n 1, 1) := by decide +kernel
theorem d_Md_search_7 : decode k_Md_search.1 7 = .ok (.invokevirtual 111, 3) := by decide +kernel
theorem d_Md_search_10 : decode k_Md_search.1 10 = .ok (.ifCond .ne 9, 3) := by decide +kernel
theorem d_Md_search_13 : decode k_Md_search.1 13 = .ok (.aload_n 0, 1) := by decide +kernel
theorem d_Md_search_14 : decode k_Md_search.1 14 = .ok (.iconst 1, 1) := by decide +kernel
theorem d_Md_search_15 : decode k_Md_search.1 15 = .ok (.invokevirtual 107, 3) := by decide +kernel
theorem d_Md_search_18 : decode k_Md_search.1 18 = .ok (.ireturn, 1) := by decide +kernel
theorem d_Md_search_19 : decode k_Md_search.1 19 = .ok (.aload_n 0, 1) := by decide +kernel
theorem d_Md_search_20 : decode k_Md_search.1 20 = .ok (.invokevirtual 181, 3) := by decide +kernel
theorem d_Md_search_23 : decode k_Md_search.1 23 = .ok (.istore_n 2, 1) := by decide +kernel
theorem d_Md_search_24 : decode k_Md_search.1 24 = .ok (.aload_n 0, 1) := by decide +kernel
theorem d_Md_search_25 : decode k_Md_search.1 25 = .ok (.iconst 0, 1) := by decide +kernel
theorem d_Md_search_26 : decode k_Md_search.1 26 = .ok (.putfield 138, 3) := by decide +kernel
theorem d_Md_search_29 : decode k_Md_search.1 29 = .ok (.aload_n 0, 1) := by decide +kernel
theorem d_Md_search_30 : decode k_Md_search.1 30 = .ok (.iconst 0, 1) := by decide +kernel
theorem d_Md_search_31 : decode k_Md_search.1 31 = .ok (.putfield 178, 3) := by decide +kernel
theorem d_Md_search_34 : decode k_Md_search.1 34 = .ok (.aload_n 0, 1) := by decide +kernel
theorem d_Md_search_35 : decode k_Md_search.1 35 = .ok (.aload_n 0, 1) := by decide +kernel
theorem d_Md_search_36 : decode k_Md_search.1 36 = .ok (.getfield 148, 3) := by decide +kernel
theorem d_Md_search_39 : decode k_Md_search.1 39 = .ok (.putfield 75, 3) := by decide +kernel
theorem d_Md_search_42 : decode k_Md_search.1 42 = .ok (.aload_n 0, 1) := by decide +kernel
theorem d_Md_search_43 : decode k_Md_search.1 43 = .ok (.getfield 148, 3) := by decide +kernel
theorem d_Md_search_46 : decode k_Md_search.1 46 = .ok (.ifCond .lt 9, 3) := by decide +kernel
theorem d_Md_search_49 : decode k_Md_search.1 49 = .ok (.aload_n 0, 1) := by decide +kernel
theorem d_Md_search_50 : decode k_Md_search.1 50 = .ok (.iconst 2, 1) := by decide +kernel
theorem d_Md_search_51 : decode k_Md_search.1 51 = .ok (.invokevirtual 107, 3) := by decide +kernel
theorem d_Md_search_54 : decode k_Md_search.1 54 = .ok (.ireturn, 1) := by decide +kernel
theorem d_Md_search_55 : decode k_Md_search.1 55 = .ok (.iconst 0, 1) := by decide +kernel
theorem d_Md_search_56 : decode k_Md_search.1 56 = .ok (.istore_n 3, 1) := by decide +kernel
theorem d_Md_search_57 : decode k_Md_search.1 57 = .ok (.iload_n 3, 1) := by decide +kernel
theorem d_Md_search_58 : decode k_Md_search.1 58 = .ok (.bipush 16, 2) := by decide +kernel
theorem d_Md_search_60 : decode k_Md_search.1 60 = .ok (.if_icmp .ge 95, 3) := by decide +kernel
theorem d_Md_search_63 : decode k_Md_search.1 63 = .ok (.aload_n 0, 1) := by decide +kernel
theorem d_Md_search_64 : decode k_Md_search.1 64 = .ok (.getfield 35, 3) := by decide +kernel
theorem d_Md_search_67 : decode k_Md_search.1 67 = .ok (.iload_n 3, 1) := by decide +kernel
theorem d_Md_search_68 : decode k_Md_search.1 68 = .ok (.baload, 1) := by decide +kernel
theorem d_Md_search_69 : decode k_Md_search.1 69 = .ok (.ifCond .eq 80, 3) := by decide +kernel
theorem d_Md_search_72 : decode k_Md_search.1 72 = .ok (.iload_n 1, 1) := by decide +kernel
theorem d_Md_search_73 : decode k_Md_search.1 73 = .ok (.ifCond .le 15, 3) := by decide +kernel
theorem d_Md_search_76 : decode k_Md_search.1 76 = .ok (.aload_n 0, 1) := by decide +kernel
theorem d_Md_search_77 : decode k_Md_search.1 77 = .ok (.iload_n 3, 1) := by decide +kernel
theorem d_Md_search_78 : decode k_Md_search.1 78 = .ok (.iload_n 1, 1) := by decide +kernel
theorem d_Md_search_79 : decode k_Md_search.1 79 = .ok (.invokevirtual 125, 3) := by decide +kernel
theorem d_Md_search_82 : decode k_Md_search.1 82 = .ok (.ifCond .ne 6, 3) := by decide +kernel
theorem d_Md_search_85 : decode k_Md_search.1 85 = .ok (.goto 64, 3) := by decide +kernel
theorem d_Md_search_88 : decode k_Md_search.1 88 = .ok (.iconst (-1), 1) := by decide +kernel
theorem d_Md_search_89 : decode k_Md_search.1 89 = .ok (.istore 4, 2) := by decide +kernel
theorem d_Md_search_91 : decode k_Md_search.1 91 = .ok (.iconst 0, 1) := by decide +kernel
theorem d_Md_search_92 : decode k_Md_search.1 92 = .ok (.istore 5, 2) := by decide +kernel
theorem d_Md_search_94 : decode k_Md_search.1 94 = .ok (.iload 5, 2) := by decide +kernel
theorem d_Md_search_96 : decode k_Md_search.1 96 = .ok (.iload_n 2, 1) := by decide +kernel
theorem d_Md_search_97 : decode k_Md_search.1 97 = .ok (.if_icmp .ge 40, 3) := by decide +kernel
theorem d_Md_search_100 : decode k_Md_search.1 100 = .ok (.aload_n 0, 1) := by decide +kernel
theorem d_Md_search_101 : decode k_Md_search.1 101 = .ok (.iload 5, 2) := by decide +kernel
theorem d_Md_search_103 : decode k_Md_search.1 103 = .ok (.iload_n 3, 1) := by decide +kernel
theorem d_Md_search_104 : decode k_Md_search.1 104 = .ok (.invokevirtual 184, 3) := by decide +kernel
theorem d_Md_search_107 : decode k_Md_search.1 107 = .ok (.istore 6, 2) := by decide +kernel
theorem d_Md_search_109 : decode k_Md_search.1 109 = .ok (.iload 6, 2) := by decide +kernel
theorem d_Md_search_111 : decode k_Md_search.1 111 = .ok (.ifCond .lt 20, 3) := by decide +kernel
theorem d_Md_search_114 : decode k_Md_search.1 114 = .ok (.iload 4, 2) := by decide +kernel
theorem d_Md_search_116 : decode k_Md_search.1 116 = .ok (.ifCond .ge 8, 3) := by decide +kernel
theorem d_Md_search_119 : decode k_Md_search.1 119 = .ok (.iload 6, 2) := by decide +kernel
theorem d_Md_search_121 : decode k_Md_search.1 121 = .ok (.goto 8, 3) := by decide +kernel
theorem d_Md_search_124 : decode k_Md_search.1 124 = .ok (.iload 4, 2) := by decide +kernel
theorem d_Md_search_126 : decode k_Md_search.1 126 = .ok (.iload 6, 2) := by decide +kernel
theorem d_Md_search_128 : decode k_Md_search.1 128 = .ok (.iadd, 1) := by decide +kernel
theorem d_Md_search_129 : decode k_Md_search.1 129 = .ok (.istore 4, 2) := by decide +kernel
theorem d_Md_search_131 : decode k_Md_search.1 131 = .ok (.iinc 5 1, 3) := by decide +kernel
theorem d_Md_search_134 : decode k_Md_search.1 134 = .ok (.goto (-40), 3) := by decide +kernel
theorem d_Md_search_137 : decode k_Md_search.1 137 = .ok (.iload 4, 2) := by decide +kernel
theorem d_Md_search_139 : decode k_Md_search.1 139 = .ok (.ifCond .lt 10, 3) := by decide +kernel
theorem d_Md_search_142 : decode k_Md_search.1 142 = .ok (.aload_n 0, 1) := by decide +kernel
theorem d_Md_search_143 : decode k_Md_search.1 143 = .ok (.iload_n 3, 1) := by decide +kernel
theorem d_Md_search_144 : decode k_Md_search.1 144 = .ok (.iload 4, 2) := by decide +kernel
theorem d_Md_search_146 : decode k_Md_search.1 146 = .ok (.invokevirtual 187, 3) := by decide +kernel
theorem d_Md_search_149 : decode k_Md_search.1 149 = .ok (.iinc 3 1, 3) := by decide +kernel
theorem d_Md_search_152 : decode k_Md_search.1 152 = .ok (.goto (-95), 3) := by decide +kernel
theorem d_Md_search_155 : decode k_Md_search.1 155 = .ok (.aload_n 0, 1) := by decide +kernel
theorem d_Md_search_156 : decode k_Md_search.1 156 = .ok (.getfield 178, 3) := by decide +kernel
theorem d_Md_search_159 : decode k_Md_search.1 159 = .ok (.ireturn, 1) := by decide +kernel
theorem d_Md_parse_0 : decode k_Md_parse.1 0 = .ok (.aload_n 0, 1) := by decide +kernel
theorem d_Md_parse_1 : decode k_Md_parse.1 1 = .ok (.iconst 0, 1) := by decide +kernel
theorem d_Md_parse_2 : decode k_Md_parse.1 2 = .ok (.putfield 163, 3) := by decide +kernel
theorem d_Md_parse_5 : decode k_Md_parse.1 5 = .ok (.aload_n 0, 1) := by decide +kernel
theorem d_Md_parse_6 : decode k_Md_parse.1 6 = .ok (.iconst 0, 1) := by decide +kernel
theorem d_Md_parse_7 : decode k_Md_parse.1 7 = .ok (.putfield 154, 3) := by decide +kernel
theorem d_Md_parse_10 : decode k_Md_parse.1 10 = .ok (.aload_n 0, 1) := by decide +kernel
theorem d_Md_parse_11 : decode k_Md_parse.1 11 = .ok (.iconst 0, 1) := by decide +kernel
theorem d_Md_parse_12 : decode k_Md_parse.1 12 = .ok (.putfield 141, 3) := by decide +kernel
theorem d_Md_parse_15 : decode k_Md_parse.1 15 = .ok (.aload_n 0, 1) := by decide +kernel
theorem d_Md_parse_16 : decode k_Md_parse.1 16 = .ok (.iconst (-1), 1) := by decide +kernel
theorem d_Md_parse_17 : decode k_Md_parse.1 17 = .ok (.putfield 148, 3) := by decide +kernel
theorem d_Md_parse_20 : decode k_Md_parse.1 20 = .ok (.iconst 0, 1) := by decide +kernel
theorem d_Md_parse_21 : decode k_Md_parse.1 21 = .ok (.istore_n 1, 1) := by decide +kernel
theorem d_Md_parse_22 : decode k_Md_parse.1 22 = .ok (.iconst 0, 1) := by decide +kernel
theorem d_Md_parse_23 : decode k_Md_parse.1 23 = .ok (.istore_n 2, 1) := by decide +kernel
theorem d_Md_parse_24 : decode k_Md_parse.1 24 = .ok (.iconst 1, 1) := by decide +kernel
theorem d_Md_parse_25 : decode k_Md_parse.1 25 = .ok (.istore_n 3, 1) := by decide +kernel
theorem d_Md_parse_26 : decode k_Md_parse.1 26 = .ok (.iload_n 3, 1) := by decide +kernel
theorem d_Md_parse_27 : decode k_Md_parse.1 27 = .ok (.ifCond .eq 90, 3) := by decide +kernel
theorem d_Md_parse_30 : decode k_Md_parse.1 30 = .ok (.aload_n 0, 1) := by decide +kernel
theorem d_Md_parse_31 : decode k_Md_parse.1 31 = .ok (.getfield 148, 3) := by decide +kernel
theorem d_Md_parse_34 : decode k_Md_parse.1 34 = .ok (.ifCond .ge 83, 3) := by decide +kernel
theorem d_Md_parse_37 : decode k_Md_parse.1 37 = .ok (.aload_n 0, 1) := by decide +kernel
theorem d_Md_parse_38 : decode k_Md_parse.1 38 = .ok (.invokevirtual 157, 3) := by decide +kernel
theorem d_Md_parse_41 : decode k_Md_parse.1 41 = .ok (.aload_n 0, 1) := by decide +kernel
theorem d_Md_parse_42 : decode k_Md_parse.1 42 = .ok (.invokevirtual 144, 3) := by decide +kernel
theorem d_Md_parse_45 : decode k_Md_parse.1 45 = .ok (.ifCond .lt 20, 3) := by decide +kernel
theorem d_Md_parse_48 : decode k_Md_parse.1 48 = .ok (.aload_n 0, 1) := by decide +kernel
theorem d_Md_parse_49 : decode k_Md_parse.1 49 = .ok (.invokevirtual 144, 3) := by decide +kernel
theorem d_Md_parse_52 : decode k_Md_parse.1 52 = .ok (.bipush 124, 2) := by decide +kernel
theorem d_Md_parse_54 : decode k_Md_parse.1 54 = .ok (.if_icmp .eq 11, 3) := by decide +kernel
theorem d_Md_parse_57 : decode k_Md_parse.1 57 = .ok (.aload_n 0, 1) := by decide +kernel
theorem d_Md_parse_58 : decode k_Md_parse.1 58 = .ok (.iload_n 1, 1) := by decide +kernel
theorem d_Md_parse_59 : decode k_Md_parse.1 59 = .ok (.invokevirtual 169, 3) := by decide +kernel
theorem d_Md_parse_62 : decode k_Md_parse.1 62 = .ok (.goto (-36), 3) := by decide +kernel
theorem d_Md_parse_65 : decode k_Md_parse.1 65 = .ok (.aload_n 0, 1) := by decide +kernel
theorem d_Md_parse_66 : decode k_Md_parse.1 66 = .ok (.getfield 163, 3) := by decide +kernel
theorem d_Md_parse_69 : decode k_Md_parse.1 69 = .ok (.iload_n 2, 1) := by decide +kernel
theorem d_Md_parse_70 : decode k_Md_parse.1 70 = .ok (.if_icmp .ne 7, 3) := by decide +kernel
theorem d_Md_parse_73 : decode k_Md_parse.1 73 = .ok (.aload_n 0, 1) := by decide +kernel
theorem d_Md_parse_74 : decode k_Md_parse.1 74 = .ok (.invokevirtual 151, 3) := by decide +kernel
theorem d_Md_parse_77 : decode k_Md_parse.1 77 = .ok (.aload_n 0, 1) := by decide +kernel
theorem d_Md_parse_78 : decode k_Md_parse.1 78 = .ok (.getfield 163, 3) := by decide +kernel
theorem d_Md_parse_81 : decode k_Md_parse.1 81 = .ok (.istore_n 2, 1) := by decide +kernel
theorem d_Md_parse_82 : decode k_Md_parse.1 82 = .ok (.iinc 1 1, 3) := by decide +kernel
theorem d_Md_parse_85 : decode k_Md_parse.1 85 = .ok (.aload_n 0, 1) := by decide +kernel
theorem d_Md_parse_86 : decode k_Md_parse.1 86 = .ok (.invokevirtual 144, 3) := by decide +kernel
theorem d_Md_parse_89 : decode k_Md_parse.1 89 = .ok (.bipush 124, 2) := by decide +kernel
theorem d_Md_parse_91 : decode k_Md_parse.1 91 = .ok (.if_icmp .ne 7, 3) := by decide +kernel
theorem d_Md_parse_94 : decode k_Md_parse.1 94 = .ok (.iconst 1, 1) := by decide +kernel
theorem d_Md_parse_95 : decode k_Md_parse.1 95 = .ok (.goto 4, 3) := by decide +kernel
theorem d_Md_parse_98 : decode k_Md_parse.1 98 = .ok (.iconst 0, 1) := by decide +kernel
theorem d_Md_parse_99 : decode k_Md_parse.1 99 = .ok (.istore_n 3, 1) := by decide +kernel
theorem d_Md_parse_100 : decode k_Md_parse.1 100 = .ok (.iload_n 3, 1) := by decide +kernel
theorem d_Md_parse_101 : decode k_Md_parse.1 101 = .ok (.ifCond .eq (-75), 3) := by decide +kernel
theorem d_Md_parse_104 : decode k_Md_parse.1 104 = .ok (.aload_n 0, 1) := by decide +kernel
theorem d_Md_parse_105 : decode k_Md_parse.1 105 = .ok (.dup, 1) := by decide +kernel
theorem d_Md_parse_106 : decode k_Md_parse.1 106 = .ok (.getfield 141, 3) := by decide +kernel
theorem d_Md_parse_109 : decode k_Md_parse.1 109 = .ok (.iconst 1, 1) := by decide +kernel
theorem d_Md_parse_110 : decode k_Md_parse.1 110 = .ok (.iadd, 1) := by decide +kernel
theorem d_Md_parse_111 : decode k_Md_parse.1 111 = .ok (.putfield 141, 3) := by decide +kernel
theorem d_Md_parse_114 : decode k_Md_parse.1 114 = .ok (.goto (-88), 3) := by decide +kernel
theorem d_Md_parse_117 : decode k_Md_parse.1 117 = .ok (.iload_n 1, 1) := by decide +kernel
theorem d_Md_parse_118 : decode k_Md_parse.1 118 = .ok (.ireturn, 1) := by decide +kernel
theorem d_Md_blanks_0 : decode k_Md_blanks.1 0 = .ok (.aload_n 0, 1) := by decide +kernel
theorem d_Md_blanks_1 : decode k_Md_blanks.1 1 = .ok (.invokevirtual 144, 3) := by decide +kernel
theorem d_Md_blanks_4 : decode k_Md_blanks.1 4 = .ok (.bipush 32, 2) := by decide +kernel
theorem d_Md_blanks_6 : decode k_Md_blanks.1 6 = .ok (.if_icmp .ne 16, 3) := by decide +kernel
theorem d_Md_blanks_9 : decode k_Md_blanks.1 9 = .ok (.aload_n 0, 1) := by decide +kernel
theorem d_Md_blanks_10 : decode k_Md_blanks.1 10 = .ok (.dup, 1) := by decide +kernel
theorem d_Md_blanks_11 : decode k_Md_blanks.1 11 = .ok (.getfield 141, 3) := by decide +kernel
theorem d_Md_blanks_14 : decode k_Md_blanks.1 14 = .ok (.iconst 1, 1) := by decide +kernel
theorem d_Md_blanks_15 : decode k_Md_blanks.1 15 = .ok (.iadd, 1) := by decide +kernel
theorem d_Md_blanks_16 : decode k_Md_blanks.1 16 = .ok (.putfield 141, 3) := by decide +kernel
theorem d_Md_blanks_19 : decode k_Md_blanks.1 19 = .ok (.goto (-19), 3) := by decide +kernel
theorem d_Md_blanks_22 : decode k_Md_blanks.1 22 = .ok (.return_, 1) := by decide +kernel
theorem d_Md_now_0 : decode k_Md_now.1 0 = .ok (.aload_n 0, 1) := by decide +kernel
theorem d_Md_now_1 : decode k_Md_now.1 1 = .ok (.getfield 141, 3) := by decide +kernel
theorem d_Md_now_4 : decode k_Md_now.1 4 = .ok (.aload_n 0, 1) := by decide +kernel
theorem d_Md_now_5 : decode k_Md_now.1 5 = .ok (.getfield 138, 3) := by decide +kernel
theorem d_Md_now_8 : decode k_Md_now.1 8 = .ok (.if_icmp .ge 15, 3) := by decide +kernel
theorem d_Md_now_11 : decode k_Md_now.1 11 = .ok (.aload_n 0, 1) := by decide +kernel
theorem d_Md_now_12 : decode k_Md_now.1 12 = .ok (.getfield 51, 3) := by decide +kernel
theorem d_Md_now_15 : decode k_Md_now.1 15 = .ok (.aload_n 0, 1) := by decide +kernel
theorem d_Md_now_16 : decode k_Md_now.1 16 = .ok (.getfield 141, 3) := by decide +kernel
theorem d_Md_now_19 : decode k_Md_now.1 19 = .ok (.iaload, 1) := by decide +kernel
theorem d_Md_now_20 : decode k_Md_now.1 20 = .ok (.goto 4, 3) := by decide +kernel
theorem d_Md_now_23 : decode k_Md_now.1 23 = .ok (.iconst (-1), 1) := by decide +kernel
theorem d_Md_now_24 : decode k_Md_now.1 24 = .ok (.ireturn, 1) := by decide +kernel
theorem d_Md_takeTerm_0 : decode k_Md_takeTerm.1 0 = .ok (.aload_n 0, 1) := by decide +kernel
theorem d_Md_takeTerm_1 : decode k_Md_takeTerm.1 1 = .ok (.getfield 57, 3) := by decide +kernel
theorem d_Md_takeTerm_4 : decode k_Md_takeTerm.1 4 = .ok (.aload_n 0, 1) := by decide +kernel
theorem d_Md_takeTerm_5 : decode k_Md_takeTerm.1 5 = .ok (.getfield 163, 3) := by decide +kernel
theorem d_Md_takeTerm_8 : decode k_Md_takeTerm.1 8 = .ok (.aload_n 0, 1) := by decide +kernel
theorem d_Md_takeTerm_9 : decode k_Md_takeTerm.1 9 = .ok (.invokevirtual 144, 3) := by decide +kernel
theorem d_Md_takeTerm_12 : decode k_Md_takeTerm.1 12 = .ok (.bipush 45, 2) := by decide +kernel
theorem d_Md_takeTerm_14 : decode k_Md_takeTerm.1 14 = .ok (.if_icmp .ne 7, 3) := by decide +kernel
theorem d_Md_takeTerm_17 : decode k_Md_takeTerm.1 17 = .ok (.iconst 1, 1) := by decide +kernel
theorem d_Md_takeTerm_18 : decode k_Md_takeTerm.1 18 = .ok (.goto 4, 3) := by decide +kernel
theorem d_Md_takeTerm_21 : decode k_Md_takeTerm.1 21 = .ok (.iconst 0, 1) := by decide +kernel
theorem d_Md_takeTerm_22 : decode k_Md_takeTerm.1 22 = .ok (.bastore, 1) := by decide +kernel
theorem d_Md_takeTerm_23 : decode k_Md_takeTerm.1 23 = .ok (.aload_n 0, 1) := by decide +kernel
theorem d_Md_takeTerm_24 : decode k_Md_takeTerm.1 24 = .ok (.getfield 57, 3) := by decide +kernel
theorem d_Md_takeTerm_27 : decode k_Md_takeTerm.1 27 = .ok (.aload_n 0, 1) := by decide +kernel
theorem d_Md_takeTerm_28 : decode k_Md_takeTerm.1 28 = .ok (.getfield 163, 3) := by decide +kernel
theorem d_Md_takeTerm_31 : decode k_Md_takeTerm.1 31 = .ok (.baload, 1) := by decide +kernel
theorem d_Md_takeTerm_32 : decode k_Md_takeTerm.1 32 = .ok (.ifCond .eq 13, 3) := by decide +kernel
theorem d_Md_takeTerm_35 : decode k_Md_takeTerm.1 35 = .ok (.aload_n 0, 1) := by decide +kernel
theorem d_Md_takeTerm_36 : decode k_Md_takeTerm.1 36 = .ok (.dup, 1) := by decide +kernel
theorem d_Md_takeTerm_37 : decode k_Md_takeTerm.1 37 = .ok (.getfield 141, 3) := by decide +kernel
theorem d_Md_takeTerm_40 : decode k_Md_takeTerm.1 40 = .ok (.iconst 1, 1) := by decide +kernel
theorem d_Md_takeTerm_41 : decode k_Md_takeTerm.1 41 = .ok (.iadd, 1) := by decide +kernel
theorem d_Md_takeTerm_42 : decode k_Md_takeTerm.1 42 = .ok (.putfield 141, 3) := by decide +kernel
theorem d_Md_takeTerm_45 : decode k_Md_takeTerm.1 45 = .ok (.aload_n 0, 1) := by decide +kernel
theorem d_Md_takeTerm_46 : decode k_Md_takeTerm.1 46 = .ok (.getfield 54, 3) := by decide +kernel
theorem d_Md_takeTerm_49 : decode k_Md_takeTerm.1 49 = .ok (.aload_n 0, 1) := by decide +kernel
theorem d_Md_takeTerm_50 : decode k_Md_takeTerm.1 50 = .ok (.getfield 163, 3) := by decide +kernel
theorem d_Md_takeTerm_53 : decode k_Md_takeTerm.1 53 = .ok (.iload_n 1, 1) := by decide +kernel
theorem d_Md_takeTerm_54 : decode k_Md_takeTerm.1 54 = .ok (.iastore, 1) := by decide +kernel
theorem d_Md_takeTerm_55 : decode k_Md_takeTerm.1 55 = .ok (.aload_n 0, 1) := by decide +kernel
theorem d_Md_takeTerm_56 : decode k_Md_takeTerm.1 56 = .ok (.getfield 63, 3) := by decide +kernel
theorem d_Md_takeTerm_59 : decode k_Md_takeTerm.1 59 = .ok (.aload_n 0, 1) := by decide +kernel
theorem d_Md_takeTerm_60 : decode k_Md_takeTerm.1 60 = .ok (.getfield 163, 3) := by decide +kernel
theorem d_Md_takeTerm_63 : decode k_Md_takeTerm.1 63 = .ok (.aload_n 0, 1) := by decide +kernel
theorem d_Md_takeTerm_64 : decode k_Md_takeTerm.1 64 = .ok (.getfield 154, 3) := by decide +kernel
theorem d_Md_takeTerm_67 : decode k_Md_takeTerm.1 67 = .ok (.iastore, 1) := by decide +kernel
theorem d_Md_takeTerm_68 : decode k_Md_takeTerm.1 68 = .ok (.aload_n 0, 1) := by decide +kernel
theorem d_Md_takeTerm_69 : decode k_Md_takeTerm.1 69 = .ok (.getfield 60, 3) := by decide +kernel
theorem d_Md_takeTerm_72 : decode k_Md_takeTerm.1 72 = .ok (.aload_n 0, 1) := by decide +kernel
theorem d_Md_takeTerm_73 : decode k_Md_takeTerm.1 73 = .ok (.getfield 163, 3) := by decide +kernel
theorem d_Md_takeTerm_76 : decode k_Md_takeTerm.1 76 = .ok (.aload_n 0, 1) := by decide +kernel
theorem d_Md_takeTerm_77 : decode k_Md_takeTerm.1 77 = .ok (.invokevirtual 144, 3) := by decide +kernel
theorem d_Md_takeTerm_80 : decode k_Md_takeTerm.1 80 = .ok (.bipush 34, 2) := by decide +kernel
theorem d_Md_takeTerm_82 : decode k_Md_takeTerm.1 82 = .ok (.if_icmp .ne 7, 3) := by decide +kernel
theorem d_Md_takeTerm_85 : decode k_Md_takeTerm.1 85 = .ok (.iconst 2, 1) := by decide +kernel
theorem d_Md_takeTerm_86 : decode k_Md_takeTerm.1 86 = .ok (.goto 4, 3) := by decide +kernel
theorem d_Md_takeTerm_89 : decode k_Md_takeTerm.1 89 = .ok (.iconst 0, 1) := by decide +kernel
theorem d_Md_takeTerm_90 : decode k_Md_takeTerm.1 90 = .ok (.iastore, 1) := by decide +kernel
theorem d_Md_takeTerm_91 : decode k_Md_takeTerm.1 91 = .ok (.aload_n 0, 1) := by decide +kernel
theorem d_Md_takeTerm_92 : decode k_Md_takeTerm.1 92 = .ok (.getfield 60, 3) := by decide +kernel
theorem d_Md_takeTerm_95 : decode k_Md_takeTerm.1 95 = .ok (.aload_n 0, 1) := by decide +kernel
theorem d_Md_takeTerm_96 : decode k_Md_takeTerm.1 96 = .ok (.getfield 163, 3) := by decide +kernel
theorem d_Md_takeTerm_99 : decode k_Md_takeTerm.1 99 = .ok (.iaload, 1) := by decide +kernel
theorem d_Md_takeTerm_100 : decode k_Md_takeTerm.1 100 = .ok (.iconst 2, 1) := by decide +kernel
theorem d_Md_takeTerm_101 : decode k_Md_takeTerm.1 101 = .ok (.if_icmp .ne 10, 3) := by decide +kernel
theorem d_Md_takeTerm_104 : decode k_Md_takeTerm.1 104 = .ok (.aload_n 0, 1) := by decide +kernel
theorem d_Md_takeTerm_105 : decode k_Md_takeTerm.1 105 = .ok (.invokevirtual 166, 3) := by decide +kernel
theorem d_Md_takeTerm_108 : decode k_Md_takeTerm.1 108 = .ok (.goto 7, 3) := by decide +kernel
theorem d_Md_takeTerm_111 : decode k_Md_takeTerm.1 111 = .ok (.aload_n 0, 1) := by decide +kernel
theorem d_Md_takeTerm_112 : decode k_Md_takeTerm.1 112 = .ok (.invokevirtual 160, 3) := by decide +kernel
theorem d_Md_takeTerm_115 : decode k_Md_takeTerm.1 115 = .ok (.aload_n 0, 1) := by decide +kernel
theorem d_Md_takeTerm_116 : decode k_Md_takeTerm.1 116 = .ok (.getfield 148, 3) := by decide +kernel
theorem d_Md_takeTerm_119 : decode k_Md_takeTerm.1 119 = .ok (.ifCond .lt 4, 3) := by decide +kernel
theorem d_Md_takeTerm_122 : decode k_Md_takeTerm.1 122 = .ok (.return_, 1) := by decide +kernel
theorem d_Md_takeTerm_123 : decode k_Md_takeTerm.1 123 = .ok (.aload_n 0, 1) := by decide +kernel
theorem d_Md_takeTerm_124 : decode k_Md_takeTerm.1 124 = .ok (.getfield 60, 3) := by decide +kernel
theorem d_Md_takeTerm_127 : decode k_Md_takeTerm.1 127 = .ok (.aload_n 0, 1) := by decide +kernel
theorem d_Md_takeTerm_128 : decode k_Md_takeTerm.1 128 = .ok (.getfield 163, 3) := by decide +kernel
theorem d_Md_takeTerm_131 : decode k_Md_takeTerm.1 131 = .ok (.iaload, 1) := by decide +kernel
theorem d_Md_takeTerm_132 : decode k_Md_takeTerm.1 132 = .ok (.ifCond .ne 32, 3) := by decide +kernel
theorem d_Md_takeTerm_135 : decode k_Md_takeTerm.1 135 = .ok (.aload_n 0, 1) := by decide +kernel
theorem d_Md_takeTerm_136 : decode k_Md_takeTerm.1 136 = .ok (.invokevirtual 144, 3) := by decide +kernel
theorem d_Md_takeTerm_139 : decode k_Md_takeTerm.1 139 = .ok (.bipush 42, 2) := by decide +kernel
theorem d_Md_takeTerm_141 : decode k_Md_takeTerm.1 141 = .ok (.if_icmp .ne 23, 3) := by decide +kernel
theorem d_Md_takeTerm_144 : decode k_Md_takeTerm.1 144 = .ok (.aload_n 0, 1) := by decide +kernel
theorem d_Md_takeTerm_145 : decode k_Md_takeTerm.1 145 = .ok (.getfield 60, 3) := by decide +kernel
theorem d_Md_takeTerm_148 : decode k_Md_takeTerm.1 148 = .ok (.aload_n 0, 1) := by decide +kernel
theorem d_Md_takeTerm_149 : decode k_Md_takeTerm.1 149 = .ok (.getfield 163, 3) := by decide +kernel
theorem d_Md_takeTerm_152 : decode k_Md_takeTerm.1 152 = .ok (.iconst 1, 1) := by decide +kernel
theorem d_Md_takeTerm_153 : decode k_Md_takeTerm.1 153 = .ok (.iastore, 1) := by decide +kernel
theorem d_Md_takeTerm_154 : decode k_Md_takeTerm.1 154 = .ok (.aload_n 0, 1) := by decide +kernel
theorem d_Md_takeTerm_155 : decode k_Md_takeTerm.1 155 = .ok (.dup, 1) := by decide +kernel
theorem d_Md_takeTerm_156 : decode k_Md_takeTerm.1 156 = .ok (.getfield 141, 3) := by decide +kernel
theorem d_Md_takeTerm_159 : decode k_Md_takeTerm.1 159 = .ok (.iconst 1, 1) := by decide +kernel
theorem d_Md_takeTerm_160 : decode k_Md_takeTerm.1 160 = .ok (.iadd, 1) := by decide +kernel
theorem d_Md_takeTerm_161 : decode k_Md_takeTerm.1 161 = .ok (.putfield 141, 3) := by decide +kernel
theorem d_Md_takeTerm_164 : decode k_Md_takeTerm.1 164 = .ok (.aload_n 0, 1) := by decide +kernel
theorem d_Md_takeTerm_165 : decode k_Md_takeTerm.1 165 = .ok (.getfield 66, 3) := by decide +kernel
theorem d_Md_takeTerm_168 : decode k_Md_takeTerm.1 168 = .ok (.aload_n 0, 1) := by decide +kernel
theorem d_Md_takeTerm_169 : decode k_Md_takeTerm.1 169 = .ok (.getfield 163, 3) := by decide +kernel
theorem d_Md_takeTerm_172 : decode k_Md_takeTerm.1 172 = .ok (.aload_n 0, 1) := by decide +kernel
theorem d_Md_takeTerm_173 : decode k_Md_takeTerm.1 173 = .ok (.getfield 154, 3) := by decide +kernel
theorem d_Md_takeTerm_176 : decode k_Md_takeTerm.1 176 = .ok (.aload_n 0, 1) := by decide +kernel
theorem d_Md_takeTerm_177 : decode k_Md_takeTerm.1 177 = .ok (.getfield 63, 3) := by decide +kernel
theorem d_Md_takeTerm_180 : decode k_Md_takeTerm.1 180 = .ok (.aload_n 0, 1) := by decide +kernel
theorem d_Md_takeTerm_181 : decode k_Md_takeTerm.1 181 = .ok (.getfield 163, 3) := by decide +kernel
theorem d_Md_takeTerm_184 : decode k_Md_takeTerm.1 184 = .ok (.iaload, 1) := by decide +kernel
theorem d_Md_takeTerm_185 : decode k_Md_takeTerm.1 185 = .ok (.isub, 1) := by decide +kernel
theorem d_Md_takeTerm_186 : decode k_Md_takeTerm.1 186 = .ok (.iastore, 1) := by decide +kernel
theorem d_Md_takeTerm_187 : decode k_Md_takeTerm.1 187 = .ok (.aload_n 0, 1) := by decide +kernel
theorem d_Md_takeTerm_188 : decode k_Md_takeTerm.1 188 = .ok (.dup, 1) := by decide +kernel
theorem d_Md_takeTerm_189 : decode k_Md_takeTerm.1 189 = .ok (.getfield 163, 3) := by decide +kernel
theorem d_Md_takeTerm_192 : decode k_Md_takeTerm.1 192 = .ok (.iconst 1, 1) := by decide +kernel
theorem d_Md_takeTerm_193 : decode k_Md_takeTerm.1 193 = .ok (.iadd, 1) := by decide +kernel
theorem d_Md_takeTerm_194 : decode k_Md_takeTerm.1 194 = .ok (.putfield 163, 3) := by decide +kernel
theorem d_Md_takeTerm_197 : decode k_Md_takeTerm.1 197 = .ok (.aload_n 0, 1) := by decide +kernel
theorem d_Md_takeTerm_198 : decode k_Md_takeTerm.1 198 = .ok (.invokevirtual 144, 3) := by decide +kernel
theorem d_Md_takeTerm_201 : decode k_Md_takeTerm.1 201 = .ok (.ifCond .lt 25, 3) := by decide +kernel
theorem d_Md_takeTerm_204 : decode k_Md_takeTerm.1 204 = .ok (.aload_n 0, 1) := by decide +kernel
theorem d_Md_takeTerm_205 : decode k_Md_takeTerm.1 205 = .ok (.invokevirtual 144, 3) := by decide +kernel
theorem d_Md_takeTerm_208 : decode k_Md_takeTerm.1 208 = .ok (.bipush 32, 2) := by decide +kernel
theorem d_Md_takeTerm_210 : decode k_Md_takeTerm.1 210 = .ok (.if_icmp .eq 16, 3) := by decide +kernel
theorem d_Md_takeTerm_213 : decode k_Md_takeTerm.1 213 = .ok (.aload_n 0, 1) := by decide +kernel
theorem d_Md_takeTerm_214 : decode k_Md_takeTerm.1 214 = .ok (.invokevirtual 144, 3) := by decide +kernel
theorem d_Md_takeTerm_217 : decode k_Md_takeTerm.1 217 = .ok (.bipush 124, 2) := by decide +kernel
theorem d_Md_takeTerm_219 : decode k_Md_takeTerm.1 219 = .ok (.if_icmp .eq 7, 3) := by decide +kernel
theorem d_Md_takeTerm_222 : decode k_Md_takeTerm.1 222 = .ok (.aload_n 0, 1) := by decide +kernel
theorem d_Md_takeTerm_223 : decode k_Md_takeTerm.1 223 = .ok (.invokevirtual 151, 3) := by decide +kernel
theorem d_Md_takeTerm_226 : decode k_Md_takeTerm.1 226 = .ok (.return_, 1) := by decide +kernel
theorem d_Md_takePhrase_0 : decode k_Md_takePhrase.1 0 = .ok (.aload_n 0, 1) := by decide +kernel
theorem d_Md_takePhrase_1 : decode k_Md_takePhrase.1 1 = .ok (.dup, 1) := by decide +kernel
theorem d_Md_takePhrase_2 : decode k_Md_takePhrase.1 2 = .ok (.getfield 141, 3) := by decide +kernel
theorem d_Md_takePhrase_5 : decode k_Md_takePhrase.1 5 = .ok (.iconst 1, 1) := by decide +kernel
theorem d_Md_takePhrase_6 : decode k_Md_takePhrase.1 6 = .ok (.iadd, 1) := by decide +kernel
theorem d_Md_takePhrase_7 : decode k_Md_takePhrase.1 7 = .ok (.putfield 141, 3) := by decide +kernel
theorem d_Md_takePhrase_10 : decode k_Md_takePhrase.1 10 = .ok (.aload_n 0, 1) := by decide +kernel
theorem d_Md_takePhrase_11 : decode k_Md_takePhrase.1 11 = .ok (.invokevirtual 157, 3) := by decide +kernel
theorem d_Md_takePhrase_14 : decode k_Md_takePhrase.1 14 = .ok (.iconst 0, 1) := by decide +kernel
theorem d_Md_takePhrase_15 : decode k_Md_takePhrase.1 15 = .ok (.istore_n 1, 1) := by decide +kernel
theorem d_Md_takePhrase_16 : decode k_Md_takePhrase.1 16 = .ok (.aload_n 0, 1) := by decide +kernel
theorem d_Md_takePhrase_17 : decode k_Md_takePhrase.1 17 = .ok (.getfield 148, 3) := by decide +kernel
theorem d_Md_takePhrase_20 : decode k_Md_takePhrase.1 20 = .ok (.ifCond .ge 71, 3) := by decide +kernel
theorem d_Md_takePhrase_23 : decode k_Md_takePhrase.1 23 = .ok (.aload_n 0, 1) := by decide +kernel
theorem d_Md_takePhrase_24 : decode k_Md_takePhrase.1 24 = .ok (.invokevirtual 144, 3) := by decide +kernel
theorem d_Md_takePhrase_27 : decode k_Md_takePhrase.1 27 = .ok (.bipush 34, 2) := by decide +kernel
theorem d_Md_takePhrase_29 : decode k_Md_takePhrase.1 29 = .ok (.if_icmp .ne 7, 3) := by decide +kernel
theorem d_Md_takePhrase_32 : decode k_Md_takePhrase.1 32 = .ok (.iload_n 1, 1) := by decide +kernel
theorem d_Md_takePhrase_33 : decode k_Md_takePhrase.1 33 = .ok (.ifCond .ne 58, 3) := by decide +kernel
theorem d_Md_takePhrase_36 : decode k_Md_takePhrase.1 36 = .ok (.iload_n 1, 1) := by decide +kernel
theorem d_Md_takePhrase_37 : decode k_Md_takePhrase.1 37 = .ok (.iconst 4, 1) := by decide +kernel
theorem d_Md_takePhrase_38 : decode k_Md_takePhrase.1 38 = .ok (.if_icmp .ne 10, 3) := by decide +kernel
theorem d_Md_takePhrase_41 : decode k_Md_takePhrase.1 41 = .ok (.aload_n 0, 1) := by decide +kernel
theorem d_Md_takePhrase_42 : decode k_Md_takePhrase.1 42 = .ok (.invokevirtual 151, 3) := by decide +kernel
theorem d_Md_takePhrase_45 : decode k_Md_takePhrase.1 45 = .ok (.goto 7, 3) := by decide +kernel
theorem d_Md_takePhrase_48 : decode k_Md_takePhrase.1 48 = .ok (.aload_n 0, 1) := by decide +kernel
theorem d_Md_takePhrase_49 : decode k_Md_takePhrase.1 49 = .ok (.invokevirtual 160, 3) := by decide +kernel
theorem d_Md_takePhrase_52 : decode k_Md_takePhrase.1 52 = .ok (.iinc 1 1, 3) := by decide +kernel
theorem d_Md_takePhrase_55 : decode k_Md_takePhrase.1 55 = .ok (.aload_n 0, 1) := by decide +kernel
theorem d_Md_takePhrase_56 : decode k_Md_takePhrase.1 56 = .ok (.getfield 148, 3) := by decide +kernel
theorem d_Md_takePhrase_59 : decode k_Md_takePhrase.1 59 = .ok (.ifCond .ge 25, 3) := by decide +kernel
theorem d_Md_takePhrase_62 : decode k_Md_takePhrase.1 62 = .ok (.aload_n 0, 1) := by decide +kernel
theorem d_Md_takePhrase_63 : decode k_Md_takePhrase.1 63 = .ok (.invokevirtual 144, 3) := by decide +kernel
theorem d_Md_takePhrase_66 : decode k_Md_takePhrase.1 66 = .ok (.bipush 32, 2) := by decide +kernel
theorem d_Md_takePhrase_68 : decode k_Md_takePhrase.1 68 = .ok (.if_icmp .eq 16, 3) := by decide +kernel
theorem d_Md_takePhrase_71 : decode k_Md_takePhrase.1 71 = .ok (.aload_n 0, 1) := by decide +kernel
theorem d_Md_takePhrase_72 : decode k_Md_takePhrase.1 72 = .ok (.invokevirtual 144, 3) := by decide +kernel
theorem d_Md_takePhrase_75 : decode k_Md_takePhrase.1 75 = .ok (.bipush 34, 2) := by decide +kernel
theorem d_Md_takePhrase_77 : decode k_Md_takePhrase.1 77 = .ok (.if_icmp .eq 7, 3) := by decide +kernel
theorem d_Md_takePhrase_80 : decode k_Md_takePhrase.1 80 = .ok (.aload_n 0, 1) := by decide +kernel
theorem d_Md_takePhrase_81 : decode k_Md_takePhrase.1 81 = .ok (.invokevirtual 151, 3) := by decide +kernel
theorem d_Md_takePhrase_84 : decode k_Md_takePhrase.1 84 = .ok (.aload_n 0, 1) := by decide +kernel
theorem d_Md_takePhrase_85 : decode k_Md_takePhrase.1 85 = .ok (.invokevirtual 157, 3) := by decide +kernel
theorem d_Md_takePhrase_88 : decode k_Md_takePhrase.1 88 = .ok (.goto (-72), 3) := by decide +kernel
theorem d_Md_takePhrase_91 : decode k_Md_takePhrase.1 91 = .ok (.aload_n 0, 1) := by decide +kernel
theorem d_Md_takePhrase_92 : decode k_Md_takePhrase.1 92 = .ok (.getfield 148, 3) := by decide +kernel
theorem d_Md_takePhrase_95 : decode k_Md_takePhrase.1 95 = .ok (.ifCond .ge 13, 3) := by decide +kernel
theorem d_Md_takePhrase_98 : decode k_Md_takePhrase.1 98 = .ok (.aload_n 0, 1) := by decide +kernel
theorem d_Md_takePhrase_99 : decode k_Md_takePhrase.1 99 = .ok (.dup, 1) := by decide +kernel
theorem d_Md_takePhrase_100 : decode k_Md_takePhrase.1 100 = .ok (.getfield 141, 3) := by decide +kernel
theorem d_Md_takePhrase_103 : decode k_Md_takePhrase.1 103 = .ok (.iconst 1, 1) := by decide +kernel
theorem d_Md_takePhrase_104 : decode k_Md_takePhrase.1 104 = .ok (.iadd, 1) := by decide +kernel
theorem d_Md_takePhrase_105 : decode k_Md_takePhrase.1 105 = .ok (.putfield 141, 3) := by decide +kernel
theorem d_Md_takePhrase_108 : decode k_Md_takePhrase.1 108 = .ok (.return_, 1) := by decide +kernel
theorem d_Md_blame_0 : decode k_Md_blame.1 0 = .ok (.aload_n 0, 1) := by decide +kernel
theorem d_Md_blame_1 : decode k_Md_blame.1 1 = .ok (.getfield 148, 3) := by decide +kernel
theorem d_Md_blame_4 : decode k_Md_blame.1 4 = .ok (.ifCond .ge 11, 3) := by decide +kernel
theorem d_Md_blame_7 : decode k_Md_blame.1 7 = .ok (.aload_n 0, 1) := by decide +kernel
theorem d_Md_blame_8 : decode k_Md_blame.1 8 = .ok (.aload_n 0, 1) := by decide +kernel
theorem d_Md_blame_9 : decode k_Md_blame.1 9 = .ok (.getfield 141, 3) := by decide +kernel
theorem d_Md_blame_12 : decode k_Md_blame.1 12 = .ok (.putfield 148, 3) := by decide +kernel
theorem d_Md_blame_15 : decode k_Md_blame.1 15 = .ok (.return_, 1) := by decide +kernel
theorem d_Md_takeWord_0 : decode k_Md_takeWord.1 0 = .ok (.lconst 0, 1) := by decide +kernel
theorem d_Md_takeWord_1 : decode k_Md_takeWord.1 1 = .ok (.lstore_n 1, 1) := by decide +kernel
theorem d_Md_takeWord_2 : decode k_Md_takeWord.1 2 = .ok (.iconst 0, 1) := by decide +kernel
theorem d_Md_takeWord_3 : decode k_Md_takeWord.1 3 = .ok (.istore_n 3, 1) := by decide +kernel
theorem d_Md_takeWord_4 : decode k_Md_takeWord.1 4 = .ok (.iload_n 3, 1) := by decide +kernel
theorem d_Md_takeWord_5 : decode k_Md_takeWord.1 5 = .ok (.bipush 8, 2) := by decide +kernel
theorem d_Md_takeWord_7 : decode k_Md_takeWord.1 7 = .ok (.if_icmp .ge 50, 3) := by decide +kernel
theorem d_Md_takeWord_10 : decode k_Md_takeWord.1 10 = .ok (.aload_n 0, 1) := by decide +kernel
theorem d_Md_takeWord_11 : decode k_Md_takeWord.1 11 = .ok (.invokevirtual 144, 3) := by decide +kernel
theorem d_Md_takeWord_14 : decode k_Md_takeWord.1 14 = .ok (.ifCond .lt 43, 3) := by decide +kernel
theorem d_Md_takeWord_17 : decode k_Md_takeWord.1 17 = .ok (.aload_n 0, 1) := by decide +kernel
theorem d_Md_takeWord_18 : decode k_Md_takeWord.1 18 = .ok (.invokevirtual 144, 3) := by decide +kernel
theorem d_Md_takeWord_21 : decode k_Md_takeWord.1 21 = .ok (.invokestatic 129, 3) := by decide +kernel
theorem d_Md_takeWord_24 : decode k_Md_takeWord.1 24 = .ok (.ifCond .le 33, 3) := by decide +kernel
theorem d_Md_takeWord_27 : decode k_Md_takeWord.1 27 = .ok (.lload_n 1, 1) := by decide +kernel
theorem d_Md_takeWord_28 : decode k_Md_takeWord.1 28 = .ok (.bipush 8, 2) := by decide +kernel
theorem d_Md_takeWord_30 : decode k_Md_takeWord.1 30 = .ok (.lshl, 1) := by decide +kernel
theorem d_Md_takeWord_31 : decode k_Md_takeWord.1 31 = .ok (.aload_n 0, 1) := by decide +kernel
theorem d_Md_takeWord_32 : decode k_Md_takeWord.1 32 = .ok (.invokevirtual 144, 3) := by decide +kernel
theorem d_Md_takeWord_35 : decode k_Md_takeWord.1 35 = .ok (.invokestatic 129, 3) := by decide +kernel
theorem d_Md_takeWord_38 : decode k_Md_takeWord.1 38 = .ok (.i2l, 1) := by decide +kernel
theorem d_Md_takeWord_39 : decode k_Md_takeWord.1 39 = .ok (.lor, 1) := by decide +kernel
theorem d_Md_takeWord_40 : decode k_Md_takeWord.1 40 = .ok (.lstore_n 1, 1) := by decide +kernel
theorem d_Md_takeWord_41 : decode k_Md_takeWord.1 41 = .ok (.iinc 3 1, 3) := by decide +kernel
theorem d_Md_takeWord_44 : decode k_Md_takeWord.1 44 = .ok (.aload_n 0, 1) := by decide +kernel
theorem d_Md_takeWord_45 : decode k_Md_takeWord.1 45 = .ok (.dup, 1) := by decide +kernel
theorem d_Md_takeWord_46 : decode k_Md_takeWord.1 46 = .ok (.getfield 141, 3) := by decide +kernel
theorem d_Md_takeWord_49 : decode k_Md_takeWord.1 49 = .ok (.iconst 1, 1) := by decide +kernel
theorem d_Md_takeWord_50 : decode k_Md_takeWord.1 50 = .ok (.iadd, 1) := by decide +kernel
theorem d_Md_takeWord_51 : decode k_Md_takeWord.1 51 = .ok (.putfield 141, 3) := by decide +kernel
theorem d_Md_takeWord_54 : decode k_Md_takeWord.1 54 = .ok (.goto (-50), 3) := by decide +kernel
theorem d_Md_takeWord_57 : decode k_Md_takeWord.1 57 = .ok (.iload_n 3, 1) := by decide +kernel
theorem d_Md_takeWord_58 : decode k_Md_takeWord.1 58 = .ok (.ifCond .eq 20, 3) := by decide +kernel
theorem d_Md_takeWord_61 : decode k_Md_takeWord.1 61 = .ok (.aload_n 0, 1) := by decide +kernel
theorem d_Md_takeWord_62 : decode k_Md_takeWord.1 62 = .ok (.invokevirtual 144, 3) := by decide +kernel
theorem d_Md_takeWord_65 : decode k_Md_takeWord.1 65 = .ok (.ifCond .lt 18, 3) := by decide +kernel
theorem d_Md_takeWord_68 : decode k_Md_takeWord.1 68 = .ok (.aload_n 0, 1) := by decide +kernel
theorem d_Md_takeWord_69 : decode k_Md_takeWord.1 69 = .ok (.invokevirtual 144, 3) := by decide +kernel
theorem d_Md_takeWord_72 : decode k_Md_takeWord.1 72 = .ok (.invokestatic 129, 3) := by decide +kernel
theorem d_Md_takeWord_75 : decode k_Md_takeWord.1 75 = .ok (.ifCond .le 8, 3) := by decide +kernel
theorem d_Md_takeWord_78 : decode k_Md_takeWord.1 78 = .ok (.aload_n 0, 1) := by decide +kernel
theorem d_Md_takeWord_79 : decode k_Md_takeWord.1 79 = .ok (.invokevirtual 151, 3) := by decide +kernel
theorem d_Md_takeWord_82 : decode k_Md_takeWord.1 82 = .ok (.return_, 1) := by decide +kernel
theorem d_Md_takeWord_83 : decode k_Md_takeWord.1 83 = .ok (.aload_n 0, 1) := by decide +kernel
theorem d_Md_takeWord_84 : decode k_Md_takeWord.1 84 = .ok (.getfield 69, 3) := by decide +kernel
theorem d_Md_takeWord_87 : decode k_Md_takeWord.1 87 = .ok (.aload_n 0, 1) := by decide +kernel
theorem d_Md_takeWord_88 : decode k_Md_takeWord.1 88 = .ok (.getfield 154, 3) := by decide +kernel
theorem d_Md_takeWord_91 : decode k_Md_takeWord.1 91 = .ok (.lload_n 1, 1) := by decide +kernel
theorem d_Md_takeWord_92 : decode k_Md_takeWord.1 92 = .ok (.lastore, 1) := by decide +kernel
theorem d_Md_takeWord_93 : decode k_Md_takeWord.1 93 = .ok (.aload_n 0, 1) := by decide +kernel
theorem d_Md_takeWord_94 : decode k_Md_takeWord.1 94 = .ok (.getfield 72, 3) := by decide +kernel
theorem d_Md_takeWord_97 : decode k_Md_takeWord.1 97 = .ok (.aload_n 0, 1) := by decide +kernel
theorem d_Md_takeWord_98 : decode k_Md_takeWord.1 98 = .ok (.getfield 154, 3) := by decide +kernel
theorem d_Md_takeWord_101 : decode k_Md_takeWord.1 101 = .ok (.iload_n 3, 1) := by decide +kernel
theorem d_Md_takeWord_102 : decode k_Md_takeWord.1 102 = .ok (.iastore, 1) := by decide +kernel
theorem d_Md_takeWord_103 : decode k_Md_takeWord.1 103 = .ok (.aload_n 0, 1) := by decide +kernel
theorem d_Md_takeWord_104 : decode k_Md_takeWord.1 104 = .ok (.dup, 1) := by decide +kernel
theorem d_Md_takeWord_105 : decode k_Md_takeWord.1 105 = .ok (.getfield 154, 3) := by decide +kernel
theorem d_Md_takeWord_108 : decode k_Md_takeWord.1 108 = .ok (.iconst 1, 1) := by decide +kernel
theorem d_Md_takeWord_109 : decode k_Md_takeWord.1 109 = .ok (.iadd, 1) := by decide +kernel
theorem d_Md_takeWord_110 : decode k_Md_takeWord.1 110 = .ok (.putfield 154, 3) := by decide +kernel
theorem d_Md_takeWord_113 : decode k_Md_takeWord.1 113 = .ok (.return_, 1) := by decide +kernel
theorem d_Md_score_0 : decode k_Md_score.1 0 = .ok (.iconst 0, 1) := by decide +kernel
theorem d_Md_score_1 : decode k_Md_score.1 1 = .ok (.istore_n 3, 1) := by decide +kernel
theorem d_Md_score_2 : decode k_Md_score.1 2 = .ok (.iconst 0, 1) := by decide +kernel
theorem d_Md_score_3 : decode k_Md_score.1 3 = .ok (.istore 4, 2) := by decide +kernel
theorem d_Md_score_5 : decode k_Md_score.1 5 = .ok (.iload 4, 2) := by decide +kernel
theorem d_Md_score_7 : decode k_Md_score.1 7 = .ok (.aload_n 0, 1) := by decide +kernel
theorem d_Md_score_8 : decode k_Md_score.1 8 = .ok (.getfield 163, 3) := by decide +kernel
theorem d_Md_score_11 : decode k_Md_score.1 11 = .ok (.if_icmp .ge 72, 3) := by decide +kernel
theorem d_Md_score_14 : decode k_Md_score.1 14 = .ok (.aload_n 0, 1) := by decide +kernel
theorem d_Md_score_15 : decode k_Md_score.1 15 = .ok (.getfield 54, 3) := by decide +kernel
theorem d_Md_score_18 : decode k_Md_score.1 18 = .ok (.iload 4, 2) := by decide +kernel
theorem d_Md_score_20 : decode k_Md_score.1 20 = .ok (.iaload, 1) := by decide +kernel
theorem d_Md_score_21 : decode k_Md_score.1 21 = .ok (.iload_n 1, 1) := by decide +kernel
theorem d_Md_score_22 : decode k_Md_score.1 22 = .ok (.if_icmp .eq 6, 3) := by decide +kernel
theorem d_Md_score_25 : decode k_Md_score.1 25 = .ok (.goto 52, 3) := by decide +kernel
theorem d_Md_score_28 : decode k_Md_score.1 28 = .ok (.aload_n 0, 1) := by decide +kernel
theorem d_Md_score_29 : decode k_Md_score.1 29 = .ok (.iload 4, 2) := by decide +kernel
theorem d_Md_score_31 : decode k_Md_score.1 31 = .ok (.iload_n 2, 1) := by decide +kernel
theorem d_Md_score_32 : decode k_Md_score.1 32 = .ok (.invokevirtual 175, 3) := by decide +kernel
theorem d_Md_score_35 : decode k_Md_score.1 35 = .ok (.istore 5, 2) := by decide +kernel
theorem d_Md_score_37 : decode k_Md_score.1 37 = .ok (.aload_n 0, 1) := by decide +kernel
theorem d_Md_score_38 : decode k_Md_score.1 38 = .ok (.getfield 57, 3) := by decide +kernel
theorem d_Md_score_41 : decode k_Md_score.1 41 = .ok (.iload 4, 2) := by decide +kernel
theorem d_Md_score_43 : decode k_Md_score.1 43 = .ok (.baload, 1) := by decide +kernel
theorem d_Md_score_44 : decode k_Md_score.1 44 = .ok (.ifCond .eq 11, 3) := by decide +kernel
theorem d_Md_score_47 : decode k_Md_score.1 47 = .ok (.iload 5, 2) := by decide +kernel
theorem d_Md_score_49 : decode k_Md_score.1 49 = .ok (.ifCond .lt 13, 3) := by decide +kernel
theorem d_Md_score_52 : decode k_Md_score.1 52 = .ok (.goto 8, 3) := by decide +kernel
theorem d_Md_score_55 : decode k_Md_score.1 55 = .ok (.iload 5, 2) := by decide +kernel
theorem d_Md_score_57 : decode k_Md_score.1 57 = .ok (.ifCond .ge 5, 3) := by decide +kernel
theorem d_Md_score_60 : decode k_Md_score.1 60 = .ok (.iconst (-1), 1) := by decide +kernel
theorem d_Md_score_61 : decode k_Md_score.1 61 = .ok (.ireturn, 1) := by decide +kernel
theorem d_Md_score_62 : decode k_Md_score.1 62 = .ok (.aload_n 0, 1) := by decide +kernel
theorem d_Md_score_63 : decode k_Md_score.1 63 = .ok (.getfield 57, 3) := by decide +kernel
theorem d_Md_score_66 : decode k_Md_score.1 66 = .ok (.iload 4, 2) := by decide +kernel
theorem d_Md_score_68 : decode k_Md_score.1 68 = .ok (.baload, 1) := by decide +kernel
theorem d_Md_score_69 : decode k_Md_score.1 69 = .ok (.ifCond .ne 8, 3) := by decide +kernel
theorem d_Md_score_72 : decode k_Md_score.1 72 = .ok (.iload_n 3, 1) := by decide +kernel
theorem d_Md_score_73 : decode k_Md_score.1 73 = .ok (.iload 5, 2) := by decide +kernel
theorem d_Md_score_75 : decode k_Md_score.1 75 = .ok (.iadd, 1) := by decide +kernel
theorem d_Md_score_76 : decode k_Md_score.1 76 = .ok (.istore_n 3, 1) := by decide +kernel
theorem d_Md_score_77 : decode k_Md_score.1 77 = .ok (.iinc 4 1, 3) := by decide +kernel
theorem d_Md_score_80 : decode k_Md_score.1 80 = .ok (.goto (-75), 3) := by decide +kernel
theorem d_Md_score_83 : decode k_Md_score.1 83 = .ok (.iload_n 3, 1) := by decide +kernel
theorem d_Md_score_84 : decode k_Md_score.1 84 = .ok (.ireturn, 1) := by decide +kernel
theorem d_Md_hits_0 : decode k_Md_hits.1 0 = .ok (.iconst 0, 1) := by decide +kernel
theorem d_Md_hits_1 : decode k_Md_hits.1 1 = .ok (.istore_n 3, 1) := by decide +kernel
theorem d_Md_hits_2 : decode k_Md_hits.1 2 = .ok (.iconst 0, 1) := by decide +kernel
theorem d_Md_hits_3 : decode k_Md_hits.1 3 = .ok (.istore 4, 2) := by decide +kernel
theorem d_Md_hits_5 : decode k_Md_hits.1 5 = .ok (.iconst 0, 1) := by decide +kernel
theorem d_Md_hits_6 : decode k_Md_hits.1 6 = .ok (.istore 5, 2) := by decide +kernel
theorem d_Md_hits_8 : decode k_Md_hits.1 8 = .ok (.iload 5, 2) := by decide +kernel
theorem d_Md_hits_10 : decode k_Md_hits.1 10 = .ok (.aload_n 0, 1) := by decide +kernel
theorem d_Md_hits_11 : decode k_Md_hits.1 11 = .ok (.getfield 66, 3) := by decide +kernel
theorem d_Md_hits_14 : decode k_Md_hits.1 14 = .ok (.iload_n 1, 1) := by decide +kernel
theorem d_Md_hits_15 : decode k_Md_hits.1 15 = .ok (.iaload, 1) := by decide +kernel
theorem d_Md_hits_16 : decode k_Md_hits.1 16 = .ok (.iadd, 1) := by decide +kernel
theorem d_Md_hits_17 : decode k_Md_hits.1 17 = .ok (.aload_n 0, 1) := by decide +kernel
theorem d_Md_hits_18 : decode k_Md_hits.1 18 = .ok (.getfield 38, 3) := by decide +kernel
theorem d_Md_hits_21 : decode k_Md_hits.1 21 = .ok (.iload_n 2, 1) := by decide +kernel
theorem d_Md_hits_22 : decode k_Md_hits.1 22 = .ok (.iaload, 1) := by decide +kernel
theorem d_Md_hits_23 : decode k_Md_hits.1 23 = .ok (.if_icmp .gt 105, 3) := by decide +kernel
theorem d_Md_hits_26 : decode k_Md_hits.1 26 = .ok (.aload_n 0, 1) := by decide +kernel
theorem d_Md_hits_27 : decode k_Md_hits.1 27 = .ok (.iload_n 1, 1) := by decide +kernel
theorem d_Md_hits_28 : decode k_Md_hits.1 28 = .ok (.bipush 30, 2) := by decide +kernel
theorem d_Md_hits_30 : decode k_Md_hits.1 30 = .ok (.iload_n 2, 1) := by decide +kernel
theorem d_Md_hits_31 : decode k_Md_hits.1 31 = .ok (.imul, 1) := by decide +kernel
theorem d_Md_hits_32 : decode k_Md_hits.1 32 = .ok (.iload 5, 2) := by decide +kernel
theorem d_Md_hits_34 : decode k_Md_hits.1 34 = .ok (.iadd, 1) := by decide +kernel
theorem d_Md_hits_35 : decode k_Md_hits.1 35 = .ok (.invokevirtual 172, 3) := by decide +kernel
theorem d_Md_hits_38 : decode k_Md_hits.1 38 = .ok (.istore 6, 2) := by decide +kernel
theorem d_Md_hits_40 : decode k_Md_hits.1 40 = .ok (.iconst 1, 1) := by decide +kernel
theorem d_Md_hits_41 : decode k_Md_hits.1 41 = .ok (.istore 7, 2) := by decide +kernel
theorem d_Md_hits_43 : decode k_Md_hits.1 43 = .ok (.iload 7, 2) := by decide +kernel
theorem d_Md_hits_45 : decode k_Md_hits.1 45 = .ok (.aload_n 0, 1) := by decide +kernel
theorem d_Md_hits_46 : decode k_Md_hits.1 46 = .ok (.getfield 66, 3) := by decide +kernel
theorem d_Md_hits_49 : decode k_Md_hits.1 49 = .ok (.iload_n 1, 1) := by decide +kernel
theorem d_Md_hits_50 : decode k_Md_hits.1 50 = .ok (.iaload, 1) := by decide +kernel
theorem d_Md_hits_51 : decode k_Md_hits.1 51 = .ok (.if_icmp .ge 45, 3) := by decide +kernel
theorem d_Md_hits_54 : decode k_Md_hits.1 54 = .ok (.aload_n 0, 1) := by decide +kernel
theorem d_Md_hits_55 : decode k_Md_hits.1 55 = .ok (.getfield 41, 3) := by decide +kernel
theorem d_Md_hits_58 : decode k_Md_hits.1 58 = .ok (.bipush 30, 2) := by decide +kernel
theorem d_Md_hits_60 : decode k_Md_hits.1 60 = .ok (.iload_n 2, 1) := by decide +kernel
theorem d_Md_hits_61 : decode k_Md_hits.1 61 = .ok (.imul, 1) := by decide +kernel
theorem d_Md_hits_62 : decode k_Md_hits.1 62 = .ok (.iload 5, 2) := by decide +kernel
theorem d_Md_hits_64 : decode k_Md_hits.1 64 = .ok (.iadd, 1) := by decide +kernel
theorem d_Md_hits_65 : decode k_Md_hits.1 65 = .ok (.iload 7, 2) := by decide +kernel
theorem d_Md_hits_67 : decode k_Md_hits.1 67 = .ok (.iadd, 1) := by decide +kernel
theorem d_Md_hits_68 : decode k_Md_hits.1 68 = .ok (.laload, 1) := by decide +kernel
theorem d_Md_hits_69 : decode k_Md_hits.1 69 = .ok (.aload_n 0, 1) := by decide +kernel
theorem d_Md_hits_70 : decode k_Md_hits.1 70 = .ok (.getfield 69, 3) := by decide +kernel
theorem d_Md_hits_73 : decode k_Md_hits.1 73 = .ok (.aload_n 0, 1) := by decide +kernel
theorem d_Md_hits_74 : decode k_Md_hits.1 74 = .ok (.getfield 63, 3) := by decide +kernel
theorem d_Md_hits_77 : decode k_Md_hits.1 77 = .ok (.iload_n 1, 1) := by decide +kernel
theorem d_Md_hits_78 : decode k_Md_hits.1 78 = .ok (.iaload, 1) := by decide +kernel
theorem d_Md_hits_79 : decode k_Md_hits.1 79 = .ok (.iload 7, 2) := by decide +kernel
theorem d_Md_hits_81 : decode k_Md_hits.1 81 = .ok (.iadd, 1) := by decide +kernel
theorem d_Md_hits_82 : decode k_Md_hits.1 82 = .ok (.laload, 1) := by decide +kernel
theorem d_Md_hits_83 : decode k_Md_hits.1 83 = .ok (.lcmp, 1) := by decide +kernel
theorem d_Md_hits_84 : decode k_Md_hits.1 84 = .ok (.ifCond .eq 6, 3) := by decide +kernel
theorem d_Md_hits_87 : decode k_Md_hits.1 87 = .ok (.iconst 0, 1) := by decide +kernel
theorem d_Md_hits_88 : decode k_Md_hits.1 88 = .ok (.istore 6, 2) := by decide +kernel
theorem d_Md_hits_90 : decode k_Md_hits.1 90 = .ok (.iinc 7 1, 3) := by decide +kernel
theorem d_Md_hits_93 : decode k_Md_hits.1 93 = .ok (.goto (-50), 3) := by decide +kernel
theorem d_Md_hits_96 : decode k_Md_hits.1 96 = .ok (.iload 6, 2) := by decide +kernel
theorem d_Md_hits_98 : decode k_Md_hits.1 98 = .ok (.ifCond .ne 6, 3) := by decide +kernel
theorem d_Md_hits_101 : decode k_Md_hits.1 101 = .ok (.goto 21, 3) := by decide +kernel
theorem d_Md_hits_104 : decode k_Md_hits.1 104 = .ok (.iconst 1, 1) := by decide +kernel
theorem d_Md_hits_105 : decode k_Md_hits.1 105 = .ok (.istore 4, 2) := by decide +kernel
theorem d_Md_hits_107 : decode k_Md_hits.1 107 = .ok (.iload_n 3, 1) := by decide +kernel
theorem d_Md_hits_108 : decode k_Md_hits.1 108 = .ok (.aload_n 0, 1) := by decide +kernel
theorem d_Md_hits_109 : decode k_Md_hits.1 109 = .ok (.getfield 48, 3) := by decide +kernel
theorem d_Md_hits_112 : decode k_Md_hits.1 112 = .ok (.bipush 30, 2) := by decide +kernel
theorem d_Md_hits_114 : decode k_Md_hits.1 114 = .ok (.iload_n 2, 1) := by decide +kernel
theorem d_Md_hits_115 : decode k_Md_hits.1 115 = .ok (.imul, 1) := by decide +kernel
theorem d_Md_hits_116 : decode k_Md_hits.1 116 = .ok (.iload 5, 2) := by decide +kernel
theorem d_Md_hits_118 : decode k_Md_hits.1 118 = .ok (.iadd, 1) := by decide +kernel
theorem d_Md_hits_119 : decode k_Md_hits.1 119 = .ok (.iaload, 1) := by decide +kernel
theorem d_Md_hits_120 : decode k_Md_hits.1 120 = .ok (.iadd, 1) := by decide +kernel
theorem d_Md_hits_121 : decode k_Md_hits.1 121 = .ok (.istore_n 3, 1) := by decide +kernel
theorem d_Md_hits_122 : decode k_Md_hits.1 122 = .ok (.iinc 5 1, 3) := by decide +kernel
theorem d_Md_hits_125 : decode k_Md_hits.1 125 = .ok (.goto (-117), 3) := by decide +kernel
theorem d_Md_hits_128 : decode k_Md_hits.1 128 = .ok (.iload 4, 2) := by decide +kernel
theorem d_Md_hits_130 : decode k_Md_hits.1 130 = .ok (.ifCond .eq 7, 3) := by decide +kernel
theorem d_Md_hits_133 : decode k_Md_hits.1 133 = .ok (.iload_n 3, 1) := by decide +kernel
theorem d_Md_hits_134 : decode k_Md_hits.1 134 = .ok (.goto 4, 3) := by decide +kernel
theorem d_Md_hits_137 : decode k_Md_hits.1 137 = .ok (.iconst (-1), 1) := by decide +kernel
theorem d_Md_hits_138 : decode k_Md_hits.1 138 = .ok (.ireturn, 1) := by decide +kernel
theorem d_Md_hit_0 : decode k_Md_hit.1 0 = .ok (.aload_n 0, 1) := by decide +kernel
theorem d_Md_hit_1 : decode k_Md_hit.1 1 = .ok (.getfield 63, 3) := by decide +kernel
theorem d_Md_hit_4 : decode k_Md_hit.1 4 = .ok (.iload_n 1, 1) := by decide +kernel
theorem d_Md_hit_5 : decode k_Md_hit.1 5 = .ok (.iaload, 1) := by decide +kernel
theorem d_Md_hit_6 : decode k_Md_hit.1 6 = .ok (.istore_n 3, 1) := by decide +kernel
theorem d_Md_hit_7 : decode k_Md_hit.1 7 = .ok (.aload_n 0, 1) := by decide +kernel
theorem d_Md_hit_8 : decode k_Md_hit.1 8 = .ok (.getfield 60, 3) := by decide +kernel
theorem d_Md_hit_11 : decode k_Md_hit.1 11 = .ok (.iload_n 1, 1) := by decide +kernel
theorem d_Md_hit_12 : decode k_Md_hit.1 12 = .ok (.iaload, 1) := by decide +kernel
theorem d_Md_hit_13 : decode k_Md_hit.1 13 = .ok (.iconst 1, 1) := by decide +kernel
theorem d_Md_hit_14 : decode k_Md_hit.1 14 = .ok (.if_icmp .ne 57, 3) := by decide +kernel
theorem d_Md_hit_17 : decode k_Md_hit.1 17 = .ok (.aload_n 0, 1) := by decide +kernel
theorem d_Md_hit_18 : decode k_Md_hit.1 18 = .ok (.getfield 45, 3) := by decide +kernel
theorem d_Md_hit_21 : decode k_Md_hit.1 21 = .ok (.iload_n 2, 1) := by decide +kernel
theorem d_Md_hit_22 : decode k_Md_hit.1 22 = .ok (.iaload, 1) := by decide +kernel
theorem d_Md_hit_23 : decode k_Md_hit.1 23 = .ok (.aload_n 0, 1) := by decide +kernel
theorem d_Md_hit_24 : decode k_Md_hit.1 24 = .ok (.getfield 72, 3) := by decide +kernel
theorem d_Md_hit_27 : decode k_Md_hit.1 27 = .ok (.iload_n 3, 1) := by decide +kernel
theorem d_Md_hit_28 : decode k_Md_hit.1 28 = .ok (.iaload, 1) := by decide +kernel
theorem d_Md_hit_29 : decode k_Md_hit.1 29 = .ok (.if_icmp .lt 40, 3) := by decide +kernel
theorem d_Md_hit_32 : decode k_Md_hit.1 32 = .ok (.aload_n 0, 1) := by decide +kernel
theorem d_Md_hit_33 : decode k_Md_hit.1 33 = .ok (.getfield 41, 3) := by decide +kernel
theorem d_Md_hit_36 : decode k_Md_hit.1 36 = .ok (.iload_n 2, 1) := by decide +kernel
theorem d_Md_hit_37 : decode k_Md_hit.1 37 = .ok (.laload, 1) := by decide +kernel
theorem d_Md_hit_38 : decode k_Md_hit.1 38 = .ok (.bipush 8, 2) := by decide +kernel
theorem d_Md_hit_40 : decode k_Md_hit.1 40 = .ok (.aload_n 0, 1) := by decide +kernel
theorem d_Md_hit_41 : decode k_Md_hit.1 41 = .ok (.getfield 45, 3) := by decide +kernel
theorem d_Md_hit_44 : decode k_Md_hit.1 44 = .ok (.iload_n 2, 1) := by decide +kernel
theorem d_Md_hit_45 : decode k_Md_hit.1 45 = .ok (.iaload, 1) := by decide +kernel
theorem d_Md_hit_46 : decode k_Md_hit.1 46 = .ok (.aload_n 0, 1) := by decide +kernel
theorem d_Md_hit_47 : decode k_Md_hit.1 47 = .ok (.getfield 72, 3) := by decide +kernel
theorem d_Md_hit_50 : decode k_Md_hit.1 50 = .ok (.iload_n 3, 1) := by decide +kernel
theorem d_Md_hit_51 : decode k_Md_hit.1 51 = .ok (.iaload, 1) := by decide +kernel
theorem d_Md_hit_52 : decode k_Md_hit.1 52 = .ok (.isub, 1) := by decide +kernel
theorem d_Md_hit_53 : decode k_Md_hit.1 53 = .ok (.imul, 1) := by decide +kernel
theorem d_Md_hit_54 : decode k_Md_hit.1 54 = .ok (.lshr, 1) := by decide +kernel
theorem d_Md_hit_55 : decode k_Md_hit.1 55 = .ok (.aload_n 0, 1) := by decide +kernel
theorem d_Md_hit_56 : decode k_Md_hit.1 56 = .ok (.getfield 69, 3) := by decide +kernel
theorem d_Md_hit_59 : decode k_Md_hit.1 59 = .ok (.iload_n 3, 1) := by decide +kernel
theorem d_Md_hit_60 : decode k_Md_hit.1 60 = .ok (.laload, 1) := by decide +kernel
theorem d_Md_hit_61 : decode k_Md_hit.1 61 = .ok (.lcmp, 1) := by decide +kernel
theorem d_Md_hit_62 : decode k_Md_hit.1 62 = .ok (.ifCond .ne 7, 3) := by decide +kernel
theorem d_Md_hit_65 : decode k_Md_hit.1 65 = .ok (.iconst 1, 1) := by decide +kernel
theorem d_Md_hit_66 : decode k_Md_hit.1 66 = .ok (.goto 4, 3) := by decide +kernel
theorem d_Md_hit_69 : decode k_Md_hit.1 69 = .ok (.iconst 0, 1) := by decide +kernel
theorem d_Md_hit_70 : decode k_Md_hit.1 70 = .ok (.ireturn, 1) := by decide +kernel
theorem d_Md_hit_71 : decode k_Md_hit.1 71 = .ok (.aload_n 0, 1) := by decide +kernel
theorem d_Md_hit_72 : decode k_Md_hit.1 72 = .ok (.getfield 41, 3) := by decide +kernel
theorem d_Md_hit_75 : decode k_Md_hit.1 75 = .ok (.iload_n 2, 1) := by decide +kernel
theorem d_Md_hit_76 : decode k_Md_hit.1 76 = .ok (.laload, 1) := by decide +kernel
theorem d_Md_hit_77 : decode k_Md_hit.1 77 = .ok (.aload_n 0, 1) := by decide +kernel
theorem d_Md_hit_78 : decode k_Md_hit.1 78 = .ok (.getfield 69, 3) := by decide +kernel
theorem d_Md_hit_81 : decode k_Md_hit.1 81 = .ok (.iload_n 3, 1) := by decide +kernel
theorem d_Md_hit_82 : decode k_Md_hit.1 82 = .ok (.laload, 1) := by decide +kernel
theorem d_Md_hit_83 : decode k_Md_hit.1 83 = .ok (.lcmp, 1) := by decide +kernel
theorem d_Md_hit_84 : decode k_Md_hit.1 84 = .ok (.ifCond .ne 7, 3) := by decide +kernel
theorem d_Md_hit_87 : decode k_Md_hit.1 87 = .ok (.iconst 1, 1) := by decide +kernel
theorem d_Md_hit_88 : decode k_Md_hit.1 88 = .ok (.goto 4, 3) := by decide +kernel
theorem d_Md_hit_91 : decode k_Md_hit.1 91 = .ok (.iconst 0, 1) := by decide +kernel
theorem d_Md_hit_92 : decode k_Md_hit.1 92 = .ok (.ireturn, 1) := by decide +kernel
theorem d_Md_place_0 : decode k_Md_place.1 0 = .ok (.aload_n 0, 1) := by decide +kernel
theorem d_Md_place_1 : decode k_Md_place.1 1 = .ok (.getfield 178, 3) := by decide +kernel
theorem d_Md_place_4 : decode k_Md_place.1 4 = .ok (.istore_n 3, 1) := by decide +kernel
theorem d_Md_place_5 : decode k_Md_place.1 5 = .ok (.iload_n 3, 1) := by decide +kernel
theorem d_Md_place_6 : decode k_Md_place.1 6 = .ok (.ifCond .le 49, 3) := by decide +kernel
theorem d_Md_place_9 : decode k_Md_place.1 9 = .ok (.aload_n 0, 1) := by decide +kernel
theorem d_Md_place_10 : decode k_Md_place.1 10 = .ok (.getfield 82, 3) := by decide +kernel
theorem d_Md_place_13 : decode k_Md_place.1 13 = .ok (.iload_n 3, 1) := by decide +kernel
theorem d_Md_place_14 : decode k_Md_place.1 14 = .ok (.iconst 1, 1) := by decide +kernel
theorem d_Md_place_15 : decode k_Md_place.1 15 = .ok (.isub, 1) := by decide +kernel
theorem d_Md_place_16 : decode k_Md_place.1 16 = .ok (.iaload, 1) := by decide +kernel
theorem d_Md_place_17 : decode k_Md_place.1 17 = .ok (.iload_n 2, 1) := by decide +kernel
theorem d_Md_place_18 : decode k_Md_place.1 18 = .ok (.if_icmp .ge 37, 3) := by decide +kernel
theorem d_Md_place_21 : decode k_Md_place.1 21 = .ok (.aload_n 0, 1) := by decide +kernel
theorem d_Md_place_22 : decode k_Md_place.1 22 = .ok (.getfield 79, 3) := by decide +kernel
theorem d_Md_place_25 : decode k_Md_place.1 25 = .ok (.iload_n 3, 1) := by decide +kernel
theorem d_Md_place_26 : decode k_Md_place.1 26 = .ok (.aload_n 0, 1) := by decide +kernel
theorem d_Md_place_27 : decode k_Md_place.1 27 = .ok (.getfield 79, 3) := by decide +kernel
theorem d_Md_place_30 : decode k_Md_place.1 30 = .ok (.iload_n 3, 1) := by decide +kernel
theorem d_Md_place_31 : decode k_Md_place.1 31 = .ok (.iconst 1, 1) := by decide +kernel
theorem d_Md_place_32 : decode k_Md_place.1 32 = .ok (.isub, 1) := by decide +kernel
theorem d_Md_place_33 : decode k_Md_place.1 33 = .ok (.iaload, 1) := by decide +kernel
theorem d_Md_place_34 : decode k_Md_place.1 34 = .ok (.iastore, 1) := by decide +kernel
theorem d_Md_place_35 : decode k_Md_place.1 35 = .ok (.aload_n 0, 1) := by decide +kernel
theorem d_Md_place_36 : decode k_Md_place.1 36 = .ok (.getfield 82, 3) := by decide +kernel
theorem d_Md_place_39 : decode k_Md_place.1 39 = .ok (.iload_n 3, 1) := by decide +kernel
theorem d_Md_place_40 : decode k_Md_place.1 40 = .ok (.aload_n 0, 1) := by decide +kernel
theorem d_Md_place_41 : decode k_Md_place.1 41 = .ok (.getfield 82, 3) := by decide +kernel
theorem d_Md_place_44 : decode k_Md_place.1 44 = .ok (.iload_n 3, 1) := by decide +kernel
theorem d_Md_place_45 : decode k_Md_place.1 45 = .ok (.iconst 1, 1) := by decide +kernel
theorem d_Md_place_46 : decode k_Md_place.1 46 = .ok (.isub, 1) := by decide +kernel
theorem d_Md_place_47 : decode k_Md_place.1 47 = .ok (.iaload, 1) := by decide +kernel
theorem d_Md_place_48 : decode k_Md_place.1 48 = .ok (.iastore, 1) := by decide +kernel
theorem d_Md_place_49 : decode k_Md_place.1 49 = .ok (.iinc 3 (-1), 3) := by decide +kernel
theorem d_Md_place_52 : decode k_Md_place.1 52 = .ok (.goto (-47), 3) := by decide +kernel
theorem d_Md_place_55 : decode k_Md_place.1 55 = .ok (.aload_n 0, 1) := by decide +kernel
theorem d_Md_place_56 : decode k_Md_place.1 56 = .ok (.getfield 79, 3) := by decide +kernel
theorem d_Md_place_59 : decode k_Md_place.1 59 = .ok (.iload_n 3, 1) := by decide +kernel
theorem d_Md_place_60 : decode k_Md_place.1 60 = .ok (.iload_n 1, 1) := by decide +kernel
theorem d_Md_place_61 : decode k_Md_place.1 61 = .ok (.iastore, 1) := by decide +kernel
theorem d_Md_place_62 : decode k_Md_place.1 62 = .ok (.aload_n 0, 1) := by decide +kernel
theorem d_Md_place_63 : decode k_Md_place.1 63 = .ok (.getfield 82, 3) := by decide +kernel
theorem d_Md_place_66 : decode k_Md_place.1 66 = .ok (.iload_n 3, 1) := by decide +kernel
theorem d_Md_place_67 : decode k_Md_place.1 67 = .ok (.iload_n 2, 1) := by decide +kernel
theorem d_Md_place_68 : decode k_Md_place.1 68 = .ok (.iastore, 1) := by decide +kernel
theorem d_Md_place_69 : decode k_Md_place.1 69 = .ok (.aload_n 0, 1) := by decide +kernel
theorem d_Md_place_70 : decode k_Md_place.1 70 = .ok (.dup, 1) := by decide +kernel
theorem d_Md_place_71 : decode k_Md_place.1 71 = .ok (.getfield 178, 3) := by decide +kernel
theorem d_Md_place_74 : decode k_Md_place.1 74 = .ok (.iconst 1, 1) := by decide +kernel
theorem d_Md_place_75 : decode k_Md_place.1 75 = .ok (.iadd, 1) := by decide +kernel
theorem d_Md_place_76 : decode k_Md_place.1 76 = .ok (.putfield 178, 3) := by decide +kernel
theorem d_Md_place_79 : decode k_Md_place.1 79 = .ok (.return_, 1) := by decide +kernel
theorem d_Md_fault_0 : decode k_Md_fault.1 0 = .ok (.aload_n 0, 1) := by decide +kernel
theorem d_Md_fault_1 : decode k_Md_fault.1 1 = .ok (.iconst 0, 1) := by decide +kernel
theorem d_Md_fault_2 : decode k_Md_fault.1 2 = .ok (.putfield 85, 3) := by decide +kernel
theorem d_Md_fault_5 : decode k_Md_fault.1 5 = .ok (.aload_n 0, 1) := by decide +kernel
theorem d_Md_fault_6 : decode k_Md_fault.1 6 = .ok (.getfield 75, 3) := by decide +kernel
theorem d_Md_fault_9 : decode k_Md_fault.1 9 = .ok (.ireturn, 1) := by decide +kernel
theorem d_Md_result_0 : decode k_Md_result.1 0 = .ok (.aload_n 0, 1) := by decide +kernel
theorem d_Md_result_1 : decode k_Md_result.1 1 = .ok (.iconst 0, 1) := by decide +kernel
theorem d_Md_result_2 : decode k_Md_result.1 2 = .ok (.putfield 85, 3) := by decide +kernel
theorem d_Md_result_5 : decode k_Md_result.1 5 = .ok (.iload_n 1, 1) := by decide +kernel
theorem d_Md_result_6 : decode k_Md_result.1 6 = .ok (.iconst 0, 1) := by decide +kernel
theorem d_Md_result_7 : decode k_Md_result.1 7 = .ok (.aload_n 0, 1) := by decide +kernel
theorem d_Md_result_8 : decode k_Md_result.1 8 = .ok (.getfield 178, 3) := by decide +kernel
theorem d_Md_result_11 : decode k_Md_result.1 11 = .ok (.iconst 1, 1) := by decide +kernel
theorem d_Md_result_12 : decode k_Md_result.1 12 = .ok (.isub, 1) := by decide +kernel
theorem d_Md_result_13 : decode k_Md_result.1 13 = .ok (.invokestatic 88, 3) := by decide +kernel
theorem d_Md_result_16 : decode k_Md_result.1 16 = .ok (.ifCond .ne 9, 3) := by decide +kernel
theorem d_Md_result_19 : decode k_Md_result.1 19 = .ok (.aload_n 0, 1) := by decide +kernel
theorem d_Md_result_20 : decode k_Md_result.1 20 = .ok (.iconst 1, 1) := by decide +kernel
theorem d_Md_result_21 : decode k_Md_result.1 21 = .ok (.invokevirtual 107, 3) := by decide +kernel
theorem d_Md_result_24 : decode k_Md_result.1 24 = .ok (.ireturn, 1) := by decide +kernel
theorem d_Md_result_25 : decode k_Md_result.1 25 = .ok (.iload_n 2, 1) := by decide +kernel
theorem d_Md_result_26 : decode k_Md_result.1 26 = .ok (.iconst 0, 1) := by decide +kernel
theorem d_Md_result_27 : decode k_Md_result.1 27 = .ok (.iconst 1, 1) := by decide +kernel
theorem d_Md_result_28 : decode k_Md_result.1 28 = .ok (.invokestatic 88, 3) := by decide +kernel
theorem d_Md_result_31 : decode k_Md_result.1 31 = .ok (.ifCond .ne 9, 3) := by decide +kernel
theorem d_Md_result_34 : decode k_Md_result.1 34 = .ok (.aload_n 0, 1) := by decide +kernel
theorem d_Md_result_35 : decode k_Md_result.1 35 = .ok (.iconst 2, 1) := by decide +kernel
theorem d_Md_result_36 : decode k_Md_result.1 36 = .ok (.invokevirtual 107, 3) := by decide +kernel
theorem d_Md_result_39 : decode k_Md_result.1 39 = .ok (.ireturn, 1) := by decide +kernel
theorem d_Md_result_40 : decode k_Md_result.1 40 = .ok (.iload_n 2, 1) := by decide +kernel
theorem d_Md_result_41 : decode k_Md_result.1 41 = .ok (.ifCond .ne 12, 3) := by decide +kernel
theorem d_Md_result_44 : decode k_Md_result.1 44 = .ok (.aload_n 0, 1) := by decide +kernel
theorem d_Md_result_45 : decode k_Md_result.1 45 = .ok (.getfield 79, 3) := by decide +kernel
theorem d_Md_result_48 : decode k_Md_result.1 48 = .ok (.iload_n 1, 1) := by decide +kernel
theorem d_Md_result_49 : decode k_Md_result.1 49 = .ok (.iaload, 1) := by decide +kernel
theorem d_Md_result_50 : decode k_Md_result.1 50 = .ok (.goto 9, 3) := by decide +kernel
theorem d_Md_result_53 : decode k_Md_result.1 53 = .ok (.aload_n 0, 1) := by decide +kernel
theorem d_Md_result_54 : decode k_Md_result.1 54 = .ok (.getfield 82, 3) := by decide +kernel
theorem d_Md_result_57 : decode k_Md_result.1 57 = .ok (.iload_n 1, 1) := by decide +kernel
theorem d_Md_result_58 : decode k_Md_result.1 58 = .ok (.iaload, 1) := by decide +kernel
theorem d_Md_result_59 : decode k_Md_result.1 59 = .ok (.ireturn, 1) := by decide +kernel
theorem d_Md_words_0 : decode k_Md_words.1 0 = .ok (.aload_n 0, 1) := by decide +kernel
theorem d_Md_words_1 : decode k_Md_words.1 1 = .ok (.iconst 0, 1) := by decide +kernel
theorem d_Md_words_2 : decode k_Md_words.1 2 = .ok (.putfield 85, 3) := by decide +kernel
theorem d_Md_words_5 : decode k_Md_words.1 5 = .ok (.iload_n 1, 1) := by decide +kernel
theorem d_Md_words_6 : decode k_Md_words.1 6 = .ok (.iconst 0, 1) := by decide +kernel
theorem d_Md_words_7 : decode k_Md_words.1 7 = .ok (.bipush 15, 2) := by decide +kernel
theorem d_Md_words_9 : decode k_Md_words.1 9 = .ok (.invokestatic 88, 3) := by decide +kernel
theorem d_Md_words_12 : decode k_Md_words.1 12 = .ok (.ifCond .eq 21, 3) := by decide +kernel
theorem d_Md_words_15 : decode k_Md_words.1 15 = .ok (.aload_n 0, 1) := by decide +kernel
theorem d_Md_words_16 : decode k_Md_words.1 16 = .ok (.getfield 35, 3) := by decide +kernel
theorem d_Md_words_19 : decode k_Md_words.1 19 = .ok (.iload_n 1, 1) := by decide +kernel
theorem d_Md_words_20 : decode k_Md_words.1 20 = .ok (.baload, 1) := by decide +kernel
theorem d_Md_words_21 : decode k_Md_words.1 21 = .ok (.ifCond .eq 12, 3) := by decide +kernel
theorem d_Md_words_24 : decode k_Md_words.1 24 = .ok (.aload_n 0, 1) := by decide +kernel
theorem d_Md_words_25 : decode k_Md_words.1 25 = .ok (.getfield 38, 3) := by decide +kernel
theorem d_Md_words_28 : decode k_Md_words.1 28 = .ok (.iload_n 1, 1) := by decide +kernel
theorem d_Md_words_29 : decode k_Md_words.1 29 = .ok (.iaload, 1) := by decide +kernel
theorem d_Md_words_30 : decode k_Md_words.1 30 = .ok (.goto 8, 3) := by decide +kernel
theorem d_Md_words_33 : decode k_Md_words.1 33 = .ok (.aload_n 0, 1) := by decide +kernel
theorem d_Md_words_34 : decode k_Md_words.1 34 = .ok (.iconst 1, 1) := by decide +kernel
theorem d_Md_words_35 : decode k_Md_words.1 35 = .ok (.invokevirtual 107, 3) := by decide +kernel
theorem d_Md_words_38 : decode k_Md_words.1 38 = .ok (.ireturn, 1) := by decide +kernel
theorem d_Md_event_0 : decode k_Md_event.1 0 = .ok (.aload_n 0, 1) := by decide +kernel
theorem d_Md_event_1 : decode k_Md_event.1 1 = .ok (.iconst 0, 1) := by decide +kernel
theorem d_Md_event_2 : decode k_Md_event.1 2 = .ok (.putfield 85, 3) := by decide +kernel
theorem d_Md_event_5 : decode k_Md_event.1 5 = .ok (.iload_n 1, 1) := by decide +kernel
theorem d_Md_event_6 : decode k_Md_event.1 6 = .ok (.iconst 0, 1) := by decide +kernel
theorem d_Md_event_7 : decode k_Md_event.1 7 = .ok (.aload_n 0, 1) := by decide +kernel
theorem d_Md_event_8 : decode k_Md_event.1 8 = .ok (.getfield 92, 3) := by decide +kernel
theorem d_Md_event_11 : decode k_Md_event.1 11 = .ok (.iconst 1, 1) := by decide +kernel
theorem d_Md_event_12 : decode k_Md_event.1 12 = .ok (.isub, 1) := by decide +kernel
theorem d_Md_event_13 : decode k_Md_event.1 13 = .ok (.invokestatic 88, 3) := by decide +kernel
theorem d_Md_event_16 : decode k_Md_event.1 16 = .ok (.ifCond .eq 22, 3) := by decide +kernel
theorem d_Md_event_19 : decode k_Md_event.1 19 = .ok (.bipush 16, 2) := by decide +kernel
theorem d_Md_event_21 : decode k_Md_event.1 21 = .ok (.aload_n 0, 1) := by decide +kernel
theorem d_Md_event_22 : decode k_Md_event.1 22 = .ok (.getfield 29, 3) := by decide +kernel
theorem d_Md_event_25 : decode k_Md_event.1 25 = .ok (.iload_n 1, 1) := by decide +kernel
theorem d_Md_event_26 : decode k_Md_event.1 26 = .ok (.iaload, 1) := by decide +kernel
theorem d_Md_event_27 : decode k_Md_event.1 27 = .ok (.imul, 1) := by decide +kernel
theorem d_Md_event_28 : decode k_Md_event.1 28 = .ok (.aload_n 0, 1) := by decide +kernel
theorem d_Md_event_29 : decode k_Md_event.1 29 = .ok (.getfield 32, 3) := by decide +kernel
theorem d_Md_event_32 : decode k_Md_event.1 32 = .ok (.iload_n 1, 1) := by decide +kernel
theorem d_Md_event_33 : decode k_Md_event.1 33 = .ok (.iaload, 1) := by decide +kernel
theorem d_Md_event_34 : decode k_Md_event.1 34 = .ok (.iadd, 1) := by decide +kernel
theorem d_Md_event_35 : decode k_Md_event.1 35 = .ok (.goto 8, 3) := by decide +kernel
theorem d_Md_event_38 : decode k_Md_event.1 38 = .ok (.aload_n 0, 1) := by decide +kernel
theorem d_Md_event_39 : decode k_Md_event.1 39 = .ok (.iconst 1, 1) := by decide +kernel
theorem d_Md_event_40 : decode k_Md_event.1 40 = .ok (.invokevirtual 107, 3) := by decide +kernel
theorem d_Md_event_43 : decode k_Md_event.1 43 = .ok (.ireturn, 1) := by decide +kernel
theorem d_Md_count_0 : decode k_Md_count.1 0 = .ok (.aload_n 0, 1) := by decide +kernel
theorem d_Md_count_1 : decode k_Md_count.1 1 = .ok (.iconst 0, 1) := by decide +kernel
theorem d_Md_count_2 : decode k_Md_count.1 2 = .ok (.putfield 85, 3) := by decide +kernel
theorem d_Md_count_5 : decode k_Md_count.1 5 = .ok (.iconst 0, 1) := by decide +kernel
theorem d_Md_count_6 : decode k_Md_count.1 6 = .ok (.istore_n 2, 1) := by decide +kernel
theorem d_Md_count_7 : decode k_Md_count.1 7 = .ok (.iload_n 1, 1) := by decide +kernel
theorem d_Md_count_8 : decode k_Md_count.1 8 = .ok (.tableswitch 132 0 6 #[44, 44, 44, 104, 109, 122, 127], 44) := by decide +kernel
theorem d_Md_count_52 : decode k_Md_count.1 52 = .ok (.iconst 0, 1) := by decide +kernel
theorem d_Md_count_53 : decode k_Md_count.1 53 = .ok (.istore_n 3, 1) := by decide +kernel
theorem d_Md_count_54 : decode k_Md_count.1 54 = .ok (.iload_n 3, 1) := by decide +kernel
theorem d_Md_count_55 : decode k_Md_count.1 55 = .ok (.bipush 16, 2) := by decide +kernel
theorem d_Md_count_57 : decode k_Md_count.1 57 = .ok (.if_icmp .ge 53, 3) := by decide +kernel
theorem d_Md_count_60 : decode k_Md_count.1 60 = .ok (.iload_n 1, 1) := by decide +kernel
theorem d_Md_count_61 : decode k_Md_count.1 61 = .ok (.ifCond .ne 15, 3) := by decide +kernel
theorem d_Md_count_64 : decode k_Md_count.1 64 = .ok (.aload_n 0, 1) := by decide +kernel
theorem d_Md_count_65 : decode k_Md_count.1 65 = .ok (.getfield 7, 3) := by decide +kernel
theorem d_Md_count_68 : decode k_Md_count.1 68 = .ok (.iload_n 3, 1) := by decide +kernel
theorem d_Md_count_69 : decode k_Md_count.1 69 = .ok (.baload, 1) := by decide +kernel
theorem d_Md_count_70 : decode k_Md_count.1 70 = .ok (.ifCond .eq 34, 3) := by decide +kernel
theorem d_Md_count_73 : decode k_Md_count.1 73 = .ok (.goto 28, 3) := by decide +kernel
theorem d_Md_count_76 : decode k_Md_count.1 76 = .ok (.iload_n 1, 1) := by decide +kernel
theorem d_Md_count_77 : decode k_Md_count.1 77 = .ok (.iconst 1, 1) := by decide +kernel
theorem d_Md_count_78 : decode k_Md_count.1 78 = .ok (.if_icmp .ne 14, 3) := by decide +kernel
theorem d_Md_count_81 : decode k_Md_count.1 81 = .ok (.aload_n 0, 1) := by decide +kernel
theorem d_Md_count_82 : decode k_Md_count.1 82 = .ok (.iload_n 3, 1) := by decide +kernel
theorem d_Md_count_83 : decode k_Md_count.1 83 = .ok (.invokevirtual 119, 3) := by decide +kernel
theorem d_Md_count_86 : decode k_Md_count.1 86 = .ok (.ifCond .eq 18, 3) := by decide +kernel
theorem d_Md_count_89 : decode k_Md_count.1 89 = .ok (.goto 12, 3) := by decide +kernel
theorem d_Md_count_92 : decode k_Md_count.1 92 = .ok (.aload_n 0, 1) := by decide +kernel
theorem d_Md_count_93 : decode k_Md_count.1 93 = .ok (.getfield 35, 3) := by decide +kernel
theorem d_Md_count_96 : decode k_Md_count.1 96 = .ok (.iload_n 3, 1) := by decide +kernel
theorem d_Md_count_97 : decode k_Md_count.1 97 = .ok (.baload, 1) := by decide +kernel
theorem d_Md_count_98 : decode k_Md_count.1 98 = .ok (.ifCond .eq 6, 3) := by decide +kernel
theorem d_Md_count_101 : decode k_Md_count.1 101 = .ok (.iinc 2 1, 3) := by decide +kernel
theorem d_Md_count_104 : decode k_Md_count.1 104 = .ok (.iinc 3 1, 3) := by decide +kernel
theorem d_Md_count_107 : decode k_Md_count.1 107 = .ok (.goto (-53), 3) := by decide +kernel
theorem d_Md_count_110 : decode k_Md_count.1 110 = .ok (.iload_n 2, 1) := by decide +kernel
theorem d_Md_count_111 : decode k_Md_count.1 111 = .ok (.ireturn, 1) := by decide +kernel
theorem d_Md_count_112 : decode k_Md_count.1 112 = .ok (.aload_n 0, 1) := by decide +kernel
theorem d_Md_count_113 : decode k_Md_count.1 113 = .ok (.getfield 92, 3) := by decide +kernel
theorem d_Md_count_116 : decode k_Md_count.1 116 = .ok (.ireturn, 1) := by decide +kernel
theorem d_Md_count_117 : decode k_Md_count.1 117 = .ok (.aload_n 0, 1) := by decide +kernel
theorem d_Md_count_118 : decode k_Md_count.1 118 = .ok (.getfield 95, 3) := by decide +kernel
theorem d_Md_count_121 : decode k_Md_count.1 121 = .ok (.ifCond .eq 7, 3) := by decide +kernel
theorem d_Md_count_124 : decode k_Md_count.1 124 = .ok (.iconst 1, 1) := by decide +kernel
theorem d_Md_count_125 : decode k_Md_count.1 125 = .ok (.goto 4, 3) := by decide +kernel
theorem d_Md_count_128 : decode k_Md_count.1 128 = .ok (.iconst 0, 1) := by decide +kernel
theorem d_Md_count_129 : decode k_Md_count.1 129 = .ok (.ireturn, 1) := by decide +kernel
theorem d_Md_count_130 : decode k_Md_count.1 130 = .ok (.aload_n 0, 1) := by decide +kernel
theorem d_Md_count_131 : decode k_Md_count.1 131 = .ok (.getfield 138, 3) := by decide +kernel
theorem d_Md_count_134 : decode k_Md_count.1 134 = .ok (.ireturn, 1) := by decide +kernel
theorem d_Md_count_135 : decode k_Md_count.1 135 = .ok (.aload_n 0, 1) := by decide +kernel
theorem d_Md_count_136 : decode k_Md_count.1 136 = .ok (.getfield 132, 3) := by decide +kernel
theorem d_Md_count_139 : decode k_Md_count.1 139 = .ok (.ireturn, 1) := by decide +kernel
theorem d_Md_count_140 : decode k_Md_count.1 140 = .ok (.aload_n 0, 1) := by decide +kernel
theorem d_Md_count_141 : decode k_Md_count.1 141 = .ok (.iconst 1, 1) := by decide +kernel
theorem d_Md_count_142 : decode k_Md_count.1 142 = .ok (.invokevirtual 107, 3) := by decide +kernel
theorem d_Md_count_145 : decode k_Md_count.1 145 = .ok (.ireturn, 1) := by decide +kernel
end
section
theorem d_Mt_min_0 : decode k_Mt_min.1 0 = .ok (.iload_n 0, 1) := by decide +kernel
theorem d_Mt_min_1 : decode k_Mt_min.1 1 = .ok (.iload_n 1, 1) := by decide +kernel
theorem d_Mt_min_2 : decode k_Mt_min.1 2 = .ok (.if_icmp .gt 7, 3) := by decide +kernel
theorem d_Mt_min_5 : decode k_Mt_min.1 5 = .ok (.iload_n 0, 1) := by decide +kernel
theorem d_Mt_min_6 : decode k_Mt_min.1 6 = .ok (.goto 4, 3) := by decide +kernel
theorem d_Mt_min_9 : decode k_Mt_min.1 9 = .ok (.iload_n 1, 1) := by decide +kernel
theorem d_Mt_min_10 : decode k_Mt_min.1 10 = .ok (.ireturn, 1) := by decide +kernel
theorem d_Mt_max_0 : decode k_Mt_max.1 0 = .ok (.iload_n 0, 1) := by decide +kernel
theorem d_Mt_max_1 : decode k_Mt_max.1 1 = .ok (.iload_n 1, 1) := by decide +kernel
theorem d_Mt_max_2 : decode k_Mt_max.1 2 = .ok (.if_icmp .lt 7, 3) := by decide +kernel
theorem d_Mt_max_5 : decode k_Mt_max.1 5 = .ok (.iload_n 0, 1) := by decide +kernel
theorem d_Mt_max_6 : decode k_Mt_max.1 6 = .ok (.goto 4, 3) := by decide +kernel
theorem d_Mt_max_9 : decode k_Mt_max.1 9 = .ok (.iload_n 1, 1) := by decide +kernel
theorem d_Mt_max_10 : decode k_Mt_max.1 10 = .ok (.ireturn, 1) := by decide +kernel
end
section
theorem d_Qu_init_0 : decode k_Qu_init.1 0 = .ok (.aload_n 0, 1) := by decide +kernel
theorem d_Qu_init_1 : decode k_Qu_init.1 1 = .ok (.invokespecial 3, 3) := by decide +kernel
theorem d_Qu_init_4 : decode k_Qu_init.1 4 = .ok (.aload_n 0, 1) := by decide +kernel
theorem d_Qu_init_5 : decode k_Qu_init.1 5 = .ok (.bipush 8, 2) := by decide +kernel
theorem d_Qu_init_7 : decode k_Qu_init.1 7 = .ok (.newarray .int, 2) := by decide +kernel
theorem d_Qu_init_9 : decode k_Qu_init.1 9 = .ok (.putfield 9, 3) := by decide +kernel
theorem d_Qu_init_12 : decode k_Qu_init.1 12 = .ok (.aload_n 0, 1) := by decide +kernel
theorem d_Qu_init_13 : decode k_Qu_init.1 13 = .ok (.bipush 8, 2) := by decide +kernel
theorem d_Qu_init_15 : decode k_Qu_init.1 15 = .ok (.newarray .int, 2) := by decide +kernel
theorem d_Qu_init_17 : decode k_Qu_init.1 17 = .ok (.putfield 15, 3) := by decide +kernel
theorem d_Qu_init_20 : decode k_Qu_init.1 20 = .ok (.return_, 1) := by decide +kernel
theorem d_Qu_startAnew_0 : decode k_Qu_startAnew.1 0 = .ok (.aload_n 0, 1) := by decide +kernel
theorem d_Qu_startAnew_1 : decode k_Qu_startAnew.1 1 = .ok (.iconst 0, 1) := by decide +kernel
theorem d_Qu_startAnew_2 : decode k_Qu_startAnew.1 2 = .ok (.putfield 18, 3) := by decide +kernel
theorem d_Qu_startAnew_5 : decode k_Qu_startAnew.1 5 = .ok (.aload_n 0, 1) := by decide +kernel
theorem d_Qu_startAnew_6 : decode k_Qu_startAnew.1 6 = .ok (.iconst 0, 1) := by decide +kernel
theorem d_Qu_startAnew_7 : decode k_Qu_startAnew.1 7 = .ok (.putfield 22, 3) := by decide +kernel
theorem d_Qu_startAnew_10 : decode k_Qu_startAnew.1 10 = .ok (.return_, 1) := by decide +kernel
theorem d_Qu_tell_0 : decode k_Qu_tell.1 0 = .ok (.aload_n 0, 1) := by decide +kernel
theorem d_Qu_tell_1 : decode k_Qu_tell.1 1 = .ok (.getfield 22, 3) := by decide +kernel
theorem d_Qu_tell_4 : decode k_Qu_tell.1 4 = .ok (.ifCond .eq 4, 3) := by decide +kernel
theorem d_Qu_tell_7 : decode k_Qu_tell.1 7 = .ok (.return_, 1) := by decide +kernel
theorem d_Qu_tell_8 : decode k_Qu_tell.1 8 = .ok (.aload_n 0, 1) := by decide +kernel
theorem d_Qu_tell_9 : decode k_Qu_tell.1 9 = .ok (.iload_n 1, 1) := by decide +kernel
theorem d_Qu_tell_10 : decode k_Qu_tell.1 10 = .ok (.invokevirtual 26, 3) := by decide +kernel
theorem d_Qu_tell_13 : decode k_Qu_tell.1 13 = .ok (.istore_n 3, 1) := by decide +kernel
theorem d_Qu_tell_14 : decode k_Qu_tell.1 14 = .ok (.iload_n 3, 1) := by decide +kernel
theorem d_Qu_tell_15 : decode k_Qu_tell.1 15 = .ok (.aload_n 0, 1) := by decide +kernel
theorem d_Qu_tell_16 : decode k_Qu_tell.1 16 = .ok (.getfield 18, 3) := by decide +kernel
theorem d_Qu_tell_19 : decode k_Qu_tell.1 19 = .ok (.if_icmp .ge 12, 3) := by decide +kernel
theorem d_Qu_tell_22 : decode k_Qu_tell.1 22 = .ok (.aload_n 0, 1) := by decide +kernel
theorem d_Qu_tell_23 : decode k_Qu_tell.1 23 = .ok (.iload_n 3, 1) := by decide +kernel
theorem d_Qu_tell_24 : decode k_Qu_tell.1 24 = .ok (.iload_n 2, 1) := by decide +kernel
theorem d_Qu_tell_25 : decode k_Qu_tell.1 25 = .ok (.invokevirtual 30, 3) := by decide +kernel
theorem d_Qu_tell_28 : decode k_Qu_tell.1 28 = .ok (.goto 55, 3) := by decide +kernel
theorem d_Qu_tell_31 : decode k_Qu_tell.1 31 = .ok (.aload_n 0, 1) := by decide +kernel
theorem d_Qu_tell_32 : decode k_Qu_tell.1 32 = .ok (.getfield 18, 3) := by decide +kernel
theorem d_Qu_tell_35 : decode k_Qu_tell.1 35 = .ok (.bipush 8, 2) := by decide +kernel
theorem d_Qu_tell_37 : decode k_Qu_tell.1 37 = .ok (.if_icmp .ge 36, 3) := by decide +kernel
theorem d_Qu_tell_40 : decode k_Qu_tell.1 40 = .ok (.aload_n 0, 1) := by decide +kernel
theorem d_Qu_tell_41 : decode k_Qu_tell.1 41 = .ok (.getfield 9, 3) := by decide +kernel
theorem d_Qu_tell_44 : decode k_Qu_tell.1 44 = .ok (.aload_n 0, 1) := by decide +kernel
theorem d_Qu_tell_45 : decode k_Qu_tell.1 45 = .ok (.getfield 18, 3) := by decide +kernel
theorem d_Qu_tell_48 : decode k_Qu_tell.1 48 = .ok (.iload_n 2, 1) := by decide +kernel
theorem d_Qu_tell_49 : decode k_Qu_tell.1 49 = .ok (.iastore, 1) := by decide +kernel
theorem d_Qu_tell_50 : decode k_Qu_tell.1 50 = .ok (.aload_n 0, 1) := by decide +kernel
theorem d_Qu_tell_51 : decode k_Qu_tell.1 51 = .ok (.getfield 15, 3) := by decide +kernel
theorem d_Qu_tell_54 : decode k_Qu_tell.1 54 = .ok (.aload_n 0, 1) := by decide +kernel
theorem d_Qu_tell_55 : decode k_Qu_tell.1 55 = .ok (.getfield 18, 3) := by decide +kernel
theorem d_Qu_tell_58 : decode k_Qu_tell.1 58 = .ok (.iload_n 1, 1) := by decide +kernel
theorem d_Qu_tell_59 : decode k_Qu_tell.1 59 = .ok (.iastore, 1) := by decide +kernel
theorem d_Qu_tell_60 : decode k_Qu_tell.1 60 = .ok (.aload_n 0, 1) := by decide +kernel
theorem d_Qu_tell_61 : decode k_Qu_tell.1 61 = .ok (.dup, 1) := by decide +kernel
theorem d_Qu_tell_62 : decode k_Qu_tell.1 62 = .ok (.getfield 18, 3) := by decide +kernel
theorem d_Qu_tell_65 : decode k_Qu_tell.1 65 = .ok (.iconst 1, 1) := by decide +kernel
theorem d_Qu_tell_66 : decode k_Qu_tell.1 66 = .ok (.iadd, 1) := by decide +kernel
theorem d_Qu_tell_67 : decode k_Qu_tell.1 67 = .ok (.putfield 18, 3) := by decide +kernel
theorem d_Qu_tell_70 : decode k_Qu_tell.1 70 = .ok (.goto 13, 3) := by decide +kernel
theorem d_Qu_tell_73 : decode k_Qu_tell.1 73 = .ok (.aload_n 0, 1) := by decide +kernel
theorem d_Qu_tell_74 : decode k_Qu_tell.1 74 = .ok (.iconst 0, 1) := by decide +kernel
theorem d_Qu_tell_75 : decode k_Qu_tell.1 75 = .ok (.putfield 18, 3) := by decide +kernel
theorem d_Qu_tell_78 : decode k_Qu_tell.1 78 = .ok (.aload_n 0, 1) := by decide +kernel
theorem d_Qu_tell_79 : decode k_Qu_tell.1 79 = .ok (.iconst 1, 1) := by decide +kernel
theorem d_Qu_tell_80 : decode k_Qu_tell.1 80 = .ok (.putfield 22, 3) := by decide +kernel
theorem d_Qu_tell_83 : decode k_Qu_tell.1 83 = .ok (.return_, 1) := by decide +kernel
theorem d_Qu_placeOf_0 : decode k_Qu_placeOf.1 0 = .ok (.iconst 0, 1) := by decide +kernel
theorem d_Qu_placeOf_1 : decode k_Qu_placeOf.1 1 = .ok (.istore_n 2, 1) := by decide +kernel
theorem d_Qu_placeOf_2 : decode k_Qu_placeOf.1 2 = .ok (.iload_n 2, 1) := by decide +kernel
theorem d_Qu_placeOf_3 : decode k_Qu_placeOf.1 3 = .ok (.aload_n 0, 1) := by decide +kernel
theorem d_Qu_placeOf_4 : decode k_Qu_placeOf.1 4 = .ok (.getfield 18, 3) := by decide +kernel
theorem d_Qu_placeOf_7 : decode k_Qu_placeOf.1 7 = .ok (.if_icmp .ge 21, 3) := by decide +kernel
theorem d_Qu_placeOf_10 : decode k_Qu_placeOf.1 10 = .ok (.aload_n 0, 1) := by decide +kernel
theorem d_Qu_placeOf_11 : decode k_Qu_placeOf.1 11 = .ok (.getfield 15, 3) := by decide +kernel
theorem d_Qu_placeOf_14 : decode k_Qu_placeOf.1 14 = .ok (.iload_n 2, 1) := by decide +kernel
theorem d_Qu_placeOf_15 : decode k_Qu_placeOf.1 15 = .ok (.iaload, 1) := by decide +kernel
theorem d_Qu_placeOf_16 : decode k_Qu_placeOf.1 16 = .ok (.iload_n 1, 1) := by decide +kernel
theorem d_Qu_placeOf_17 : decode k_Qu_placeOf.1 17 = .ok (.if_icmp .ne 5, 3) := by decide +kernel
theorem d_Qu_placeOf_20 : decode k_Qu_placeOf.1 20 = .ok (.iload_n 2, 1) := by decide +kernel
theorem d_Qu_placeOf_21 : decode k_Qu_placeOf.1 21 = .ok (.ireturn, 1) := by decide +kernel
theorem d_Qu_placeOf_22 : decode k_Qu_placeOf.1 22 = .ok (.iinc 2 1, 3) := by decide +kernel
theorem d_Qu_placeOf_25 : decode k_Qu_placeOf.1 25 = .ok (.goto (-23), 3) := by decide +kernel
theorem d_Qu_placeOf_28 : decode k_Qu_placeOf.1 28 = .ok (.aload_n 0, 1) := by decide +kernel
theorem d_Qu_placeOf_29 : decode k_Qu_placeOf.1 29 = .ok (.getfield 18, 3) := by decide +kernel
theorem d_Qu_placeOf_32 : decode k_Qu_placeOf.1 32 = .ok (.ireturn, 1) := by decide +kernel
theorem d_Qu_putTogether_0 : decode k_Qu_putTogether.1 0 = .ok (.aload_n 0, 1) := by decide +kernel
theorem d_Qu_putTogether_1 : decode k_Qu_putTogether.1 1 = .ok (.getfield 9, 3) := by decide +kernel
theorem d_Qu_putTogether_4 : decode k_Qu_putTogether.1 4 = .ok (.iload_n 1, 1) := by decide +kernel
theorem d_Qu_putTogether_5 : decode k_Qu_putTogether.1 5 = .ok (.iaload, 1) := by decide +kernel
theorem d_Qu_putTogether_6 : decode k_Qu_putTogether.1 6 = .ok (.istore_n 3, 1) := by decide +kernel
theorem d_Qu_putTogether_7 : decode k_Qu_putTogether.1 7 = .ok (.iload_n 3, 1) := by decide +kernel
theorem d_Qu_putTogether_8 : decode k_Qu_putTogether.1 8 = .ok (.iconst 1, 1) := by decide +kernel
theorem d_Qu_putTogether_9 : decode k_Qu_putTogether.1 9 = .ok (.if_icmp .ne 16, 3) := by decide +kernel
theorem d_Qu_putTogether_12 : decode k_Qu_putTogether.1 12 = .ok (.iload_n 2, 1) := by decide +kernel
theorem d_Qu_putTogether_13 : decode k_Qu_putTogether.1 13 = .ok (.iconst 3, 1) := by decide +kernel
theorem d_Qu_putTogether_14 : decode k_Qu_putTogether.1 14 = .ok (.if_icmp .ne 11, 3) := by decide +kernel
theorem d_Qu_putTogether_17 : decode k_Qu_putTogether.1 17 = .ok (.aload_n 0, 1) := by decide +kernel
theorem d_Qu_putTogether_18 : decode k_Qu_putTogether.1 18 = .ok (.iload_n 1, 1) := by decide +kernel
theorem d_Qu_putTogether_19 : decode k_Qu_putTogether.1 19 = .ok (.invokevirtual 34, 3) := by decide +kernel
theorem d_Qu_putTogether_22 : decode k_Qu_putTogether.1 22 = .ok (.goto 40, 3) := by decide +kernel
theorem d_Qu_putTogether_25 : decode k_Qu_putTogether.1 25 = .ok (.iload_n 3, 1) := by decide +kernel
theorem d_Qu_putTogether_26 : decode k_Qu_putTogether.1 26 = .ok (.iconst 2, 1) := by decide +kernel
theorem d_Qu_putTogether_27 : decode k_Qu_putTogether.1 27 = .ok (.if_icmp .ne 18, 3) := by decide +kernel
theorem d_Qu_putTogether_30 : decode k_Qu_putTogether.1 30 = .ok (.iload_n 2, 1) := by decide +kernel
theorem d_Qu_putTogether_31 : decode k_Qu_putTogether.1 31 = .ok (.iconst 3, 1) := by decide +kernel
theorem d_Qu_putTogether_32 : decode k_Qu_putTogether.1 32 = .ok (.if_icmp .ne 13, 3) := by decide +kernel
theorem d_Qu_putTogether_35 : decode k_Qu_putTogether.1 35 = .ok (.aload_n 0, 1) := by decide +kernel
theorem d_Qu_putTogether_36 : decode k_Qu_putTogether.1 36 = .ok (.getfield 9, 3) := by decide +kernel
theorem d_Qu_putTogether_39 : decode k_Qu_putTogether.1 39 = .ok (.iload_n 1, 1) := by decide +kernel
theorem d_Qu_putTogether_40 : decode k_Qu_putTogether.1 40 = .ok (.iconst 3, 1) := by decide +kernel
theorem d_Qu_putTogether_41 : decode k_Qu_putTogether.1 41 = .ok (.iastore, 1) := by decide +kernel
theorem d_Qu_putTogether_42 : decode k_Qu_putTogether.1 42 = .ok (.goto 20, 3) := by decide +kernel
theorem d_Qu_putTogether_45 : decode k_Qu_putTogether.1 45 = .ok (.iload_n 3, 1) := by decide +kernel
theorem d_Qu_putTogether_46 : decode k_Qu_putTogether.1 46 = .ok (.iconst 3, 1) := by decide +kernel
theorem d_Qu_putTogether_47 : decode k_Qu_putTogether.1 47 = .ok (.if_icmp .ne 15, 3) := by decide +kernel
theorem d_Qu_putTogether_50 : decode k_Qu_putTogether.1 50 = .ok (.iload_n 2, 1) := by decide +kernel
theorem d_Qu_putTogether_51 : decode k_Qu_putTogether.1 51 = .ok (.iconst 1, 1) := by decide +kernel
theorem d_Qu_putTogether_52 : decode k_Qu_putTogether.1 52 = .ok (.if_icmp .ne 10, 3) := by decide +kernel
theorem d_Qu_putTogether_55 : decode k_Qu_putTogether.1 55 = .ok (.aload_n 0, 1) := by decide +kernel
theorem d_Qu_putTogether_56 : decode k_Qu_putTogether.1 56 = .ok (.getfield 9, 3) := by decide +kernel
theorem d_Qu_putTogether_59 : decode k_Qu_putTogether.1 59 = .ok (.iload_n 1, 1) := by decide +kernel
theorem d_Qu_putTogether_60 : decode k_Qu_putTogether.1 60 = .ok (.iconst 2, 1) := by decide +kernel
theorem d_Qu_putTogether_61 : decode k_Qu_putTogether.1 61 = .ok (.iastore, 1) := by decide +kernel
theorem d_Qu_putTogether_62 : decode k_Qu_putTogether.1 62 = .ok (.return_, 1) := by decide +kernel
theorem d_Qu_drop_0 : decode k_Qu_drop.1 0 = .ok (.aload_n 0, 1) := by decide +kernel
theorem d_Qu_drop_1 : decode k_Qu_drop.1 1 = .ok (.dup, 1) := by decide +kernel
theorem d_Qu_drop_2 : decode k_Qu_drop.1 2 = .ok (.getfield 18, 3) := by decide +kernel
theorem d_Qu_drop_5 : decode k_Qu_drop.1 5 = .ok (.iconst 1, 1) := by decide +kernel
theorem d_Qu_drop_6 : decode k_Qu_drop.1 6 = .ok (.isub, 1) := by decide +kernel
theorem d_Qu_drop_7 : decode k_Qu_drop.1 7 = .ok (.putfield 18, 3) := by decide +kernel
theorem d_Qu_drop_10 : decode k_Qu_drop.1 10 = .ok (.iload_n 1, 1) := by decide +kernel
theorem d_Qu_drop_11 : decode k_Qu_drop.1 11 = .ok (.istore_n 2, 1) := by decide +kernel
theorem d_Qu_drop_12 : decode k_Qu_drop.1 12 = .ok (.iload_n 2, 1) := by decide +kernel
theorem d_Qu_drop_13 : decode k_Qu_drop.1 13 = .ok (.aload_n 0, 1) := by decide +kernel
theorem d_Qu_drop_14 : decode k_Qu_drop.1 14 = .ok (.getfield 18, 3) := by decide +kernel
theorem d_Qu_drop_17 : decode k_Qu_drop.1 17 = .ok (.if_icmp .ge 37, 3) := by decide +kernel
theorem d_Qu_drop_20 : decode k_Qu_drop.1 20 = .ok (.aload_n 0, 1) := by decide +kernel
theorem d_Qu_drop_21 : decode k_Qu_drop.1 21 = .ok (.getfield 9, 3) := by decide +kernel
theorem d_Qu_drop_24 : decode k_Qu_drop.1 24 = .ok (.iload_n 2, 1) := by decide +kernel
theorem d_Qu_drop_25 : decode k_Qu_drop.1 25 = .ok (.aload_n 0, 1) := by decide +kernel
theorem d_Qu_drop_26 : decode k_Qu_drop.1 26 = .ok (.getfield 9, 3) := by decide +kernel
theorem d_Qu_drop_29 : decode k_Qu_drop.1 29 = .ok (.iload_n 2, 1) := by decide +kernel
theorem d_Qu_drop_30 : decode k_Qu_drop.1 30 = .ok (.iconst 1, 1) := by decide +kernel
theorem d_Qu_drop_31 : decode k_Qu_drop.1 31 = .ok (.iadd, 1) := by decide +kernel
theorem d_Qu_drop_32 : decode k_Qu_drop.1 32 = .ok (.iaload, 1) := by decide +kernel
theorem d_Qu_drop_33 : decode k_Qu_drop.1 33 = .ok (.iastore, 1) := by decide +kernel
theorem d_Qu_drop_34 : decode k_Qu_drop.1 34 = .ok (.aload_n 0, 1) := by decide +kernel
theorem d_Qu_drop_35 : decode k_Qu_drop.1 35 = .ok (.getfield 15, 3) := by decide +kernel
theorem d_Qu_drop_38 : decode k_Qu_drop.1 38 = .ok (.iload_n 2, 1) := by decide +kernel
theorem d_Qu_drop_39 : decode k_Qu_drop.1 39 = .ok (.aload_n 0, 1) := by decide +kernel
theorem d_Qu_drop_40 : decode k_Qu_drop.1 40 = .ok (.getfield 15, 3) := by decide +kernel
theorem d_Qu_drop_43 : decode k_Qu_drop.1 43 = .ok (.iload_n 2, 1) := by decide +kernel
theorem d_Qu_drop_44 : decode k_Qu_drop.1 44 = .ok (.iconst 1, 1) := by decide +kernel
theorem d_Qu_drop_45 : decode k_Qu_drop.1 45 = .ok (.iadd, 1) := by decide +kernel
theorem d_Qu_drop_46 : decode k_Qu_drop.1 46 = .ok (.iaload, 1) := by decide +kernel
theorem d_Qu_drop_47 : decode k_Qu_drop.1 47 = .ok (.iastore, 1) := by decide +kernel
theorem d_Qu_drop_48 : decode k_Qu_drop.1 48 = .ok (.iinc 2 1, 3) := by decide +kernel
theorem d_Qu_drop_51 : decode k_Qu_drop.1 51 = .ok (.goto (-39), 3) := by decide +kernel
theorem d_Qu_drop_54 : decode k_Qu_drop.1 54 = .ok (.return_, 1) := by decide +kernel
theorem d_Qu_isLost_0 : decode k_Qu_isLost.1 0 = .ok (.aload_n 0, 1) := by decide +kernel
theorem d_Qu_isLost_1 : decode k_Qu_isLost.1 1 = .ok (.getfield 22, 3) := by decide +kernel
theorem d_Qu_isLost_4 : decode k_Qu_isLost.1 4 = .ok (.ireturn, 1) := by decide +kernel
theorem d_Qu_size_0 : decode k_Qu_size.1 0 = .ok (.aload_n 0, 1) := by decide +kernel
theorem d_Qu_size_1 : decode k_Qu_size.1 1 = .ok (.getfield 18, 3) := by decide +kernel
theorem d_Qu_size_4 : decode k_Qu_size.1 4 = .ok (.ireturn, 1) := by decide +kernel
theorem d_Qu_kindAt_0 : decode k_Qu_kindAt.1 0 = .ok (.aload_n 0, 1) := by decide +kernel
theorem d_Qu_kindAt_1 : decode k_Qu_kindAt.1 1 = .ok (.getfield 9, 3) := by decide +kernel
theorem d_Qu_kindAt_4 : decode k_Qu_kindAt.1 4 = .ok (.iload_n 1, 1) := by decide +kernel
theorem d_Qu_kindAt_5 : decode k_Qu_kindAt.1 5 = .ok (.iaload, 1) := by decide +kernel
theorem d_Qu_kindAt_6 : decode k_Qu_kindAt.1 6 = .ok (.ireturn, 1) := by decide +kernel
theorem d_Qu_fileAt_0 : decode k_Qu_fileAt.1 0 = .ok (.aload_n 0, 1) := by decide +kernel
theorem d_Qu_fileAt_1 : decode k_Qu_fileAt.1 1 = .ok (.getfield 15, 3) := by decide +kernel
theorem d_Qu_fileAt_4 : decode k_Qu_fileAt.1 4 = .ok (.iload_n 1, 1) := by decide +kernel
theorem d_Qu_fileAt_5 : decode k_Qu_fileAt.1 5 = .ok (.iaload, 1) := by decide +kernel
theorem d_Qu_fileAt_6 : decode k_Qu_fileAt.1 6 = .ok (.ireturn, 1) := by decide +kernel
end
section
theorem d_Qy_init_0 : decode k_Qy_init.1 0 = .ok (.aload_n 0, 1) := by decide +kernel
theorem d_Qy_init_1 : decode k_Qy_init.1 1 = .ok (.invokespecial 3, 3) := by decide +kernel
theorem d_Qy_init_4 : decode k_Qy_init.1 4 = .ok (.aload_n 0, 1) := by decide +kernel
theorem d_Qy_init_5 : decode k_Qy_init.1 5 = .ok (.bipush 40, 2) := by decide +kernel
theorem d_Qy_init_7 : decode k_Qy_init.1 7 = .ok (.newarray .int, 2) := by decide +kernel
theorem d_Qy_init_9 : decode k_Qy_init.1 9 = .ok (.putfield 9, 3) := by decide +kernel
theorem d_Qy_init_12 : decode k_Qy_init.1 12 = .ok (.aload_n 0, 1) := by decide +kernel
theorem d_Qy_init_13 : decode k_Qy_init.1 13 = .ok (.bipush 21, 2) := by decide +kernel
theorem d_Qy_init_15 : decode k_Qy_init.1 15 = .ok (.anewarray 15, 3) := by decide +kernel
theorem d_Qy_init_18 : decode k_Qy_init.1 18 = .ok (.putfield 17, 3) := by decide +kernel
theorem d_Qy_init_21 : decode k_Qy_init.1 21 = .ok (.iconst 0, 1) := by decide +kernel
theorem d_Qy_init_22 : decode k_Qy_init.1 22 = .ok (.istore_n 1, 1) := by decide +kernel
theorem d_Qy_init_23 : decode k_Qy_init.1 23 = .ok (.iload_n 1, 1) := by decide +kernel
theorem d_Qy_init_24 : decode k_Qy_init.1 24 = .ok (.bipush 21, 2) := by decide +kernel
theorem d_Qy_init_26 : decode k_Qy_init.1 26 = .ok (.if_icmp .ge 22, 3) := by decide +kernel
theorem d_Qy_init_29 : decode k_Qy_init.1 29 = .ok (.aload_n 0, 1) := by decide +kernel
theorem d_Qy_init_30 : decode k_Qy_init.1 30 = .ok (.getfield 17, 3) := by decide +kernel
theorem d_Qy_init_33 : decode k_Qy_init.1 33 = .ok (.iload_n 1, 1) := by decide +kernel
theorem d_Qy_init_34 : decode k_Qy_init.1 34 = .ok (.new 15, 3) := by decide +kernel
theorem d_Qy_init_37 : decode k_Qy_init.1 37 = .ok (.dup, 1) := by decide +kernel
theorem d_Qy_init_38 : decode k_Qy_init.1 38 = .ok (.invokespecial 21, 3) := by decide +kernel
theorem d_Qy_init_41 : decode k_Qy_init.1 41 = .ok (.aastore, 1) := by decide +kernel
theorem d_Qy_init_42 : decode k_Qy_init.1 42 = .ok (.iinc 1 1, 3) := by decide +kernel
theorem d_Qy_init_45 : decode k_Qy_init.1 45 = .ok (.goto (-22), 3) := by decide +kernel
theorem d_Qy_init_48 : decode k_Qy_init.1 48 = .ok (.return_, 1) := by decide +kernel
theorem d_Qy_length_0 : decode k_Qy_length.1 0 = .ok (.aload_n 0, 1) := by decide +kernel
theorem d_Qy_length_1 : decode k_Qy_length.1 1 = .ok (.getfield 22, 3) := by decide +kernel
theorem d_Qy_length_4 : decode k_Qy_length.1 4 = .ok (.ireturn, 1) := by decide +kernel
theorem d_Qy_append_0 : decode k_Qy_append.1 0 = .ok (.aload_n 0, 1) := by decide +kernel
theorem d_Qy_append_1 : decode k_Qy_append.1 1 = .ok (.getfield 9, 3) := by decide +kernel
theorem d_Qy_append_4 : decode k_Qy_append.1 4 = .ok (.aload_n 0, 1) := by decide +kernel
theorem d_Qy_append_5 : decode k_Qy_append.1 5 = .ok (.getfield 22, 3) := by decide +kernel
theorem d_Qy_append_8 : decode k_Qy_append.1 8 = .ok (.iload_n 1, 1) := by decide +kernel
theorem d_Qy_append_9 : decode k_Qy_append.1 9 = .ok (.iastore, 1) := by decide +kernel
theorem d_Qy_append_10 : decode k_Qy_append.1 10 = .ok (.aload_n 0, 1) := by decide +kernel
theorem d_Qy_append_11 : decode k_Qy_append.1 11 = .ok (.dup, 1) := by decide +kernel
theorem d_Qy_append_12 : decode k_Qy_append.1 12 = .ok (.getfield 22, 3) := by decide +kernel
theorem d_Qy_append_15 : decode k_Qy_append.1 15 = .ok (.iconst 1, 1) := by decide +kernel
theorem d_Qy_append_16 : decode k_Qy_append.1 16 = .ok (.iadd, 1) := by decide +kernel
theorem d_Qy_append_17 : decode k_Qy_append.1 17 = .ok (.putfield 22, 3) := by decide +kernel
theorem d_Qy_append_20 : decode k_Qy_append.1 20 = .ok (.return_, 1) := by decide +kernel
theorem d_Qy_parse_0 : decode k_Qy_parse.1 0 = .ok (.aload_n 0, 1) := by decide +kernel
theorem d_Qy_parse_1 : decode k_Qy_parse.1 1 = .ok (.iconst 0, 1) := by decide +kernel
theorem d_Qy_parse_2 : decode k_Qy_parse.1 2 = .ok (.putfield 26, 3) := by decide +kernel
theorem d_Qy_parse_5 : decode k_Qy_parse.1 5 = .ok (.aload_n 0, 1) := by decide +kernel
theorem d_Qy_parse_6 : decode k_Qy_parse.1 6 = .ok (.iconst (-1), 1) := by decide +kernel
theorem d_Qy_parse_7 : decode k_Qy_parse.1 7 = .ok (.putfield 29, 3) := by decide +kernel
theorem d_Qy_parse_10 : decode k_Qy_parse.1 10 = .ok (.aload_n 0, 1) := by decide +kernel
theorem d_Qy_parse_11 : decode k_Qy_parse.1 11 = .ok (.iconst 0, 1) := by decide +kernel
theorem d_Qy_parse_12 : decode k_Qy_parse.1 12 = .ok (.putfield 32, 3) := by decide +kernel
theorem d_Qy_parse_15 : decode k_Qy_parse.1 15 = .ok (.aload_n 0, 1) := by decide +kernel
theorem d_Qy_parse_16 : decode k_Qy_parse.1 16 = .ok (.iconst 0, 1) := by decide +kernel
theorem d_Qy_parse_17 : decode k_Qy_parse.1 17 = .ok (.putfield 35, 3) := by decide +kernel
theorem d_Qy_parse_20 : decode k_Qy_parse.1 20 = .ok (.aload_n 0, 1) := by decide +kernel
theorem d_Qy_parse_21 : decode k_Qy_parse.1 21 = .ok (.invokevirtual 38, 3) := by decide +kernel
theorem d_Qy_parse_24 : decode k_Qy_parse.1 24 = .ok (.iconst 0, 1) := by decide +kernel
theorem d_Qy_parse_25 : decode k_Qy_parse.1 25 = .ok (.istore_n 1, 1) := by decide +kernel
theorem d_Qy_parse_26 : decode k_Qy_parse.1 26 = .ok (.iload_n 1, 1) := by decide +kernel
theorem d_Qy_parse_27 : decode k_Qy_parse.1 27 = .ok (.bipush 40, 2) := by decide +kernel
theorem d_Qy_parse_29 : decode k_Qy_parse.1 29 = .ok (.if_icmp .ge 39, 3) := by decide +kernel
theorem d_Qy_parse_32 : decode k_Qy_parse.1 32 = .ok (.aload_n 0, 1) := by decide +kernel
theorem d_Qy_parse_33 : decode k_Qy_parse.1 33 = .ok (.invokevirtual 41, 3) := by decide +kernel
theorem d_Qy_parse_36 : decode k_Qy_parse.1 36 = .ok (.ifCond .ne 32, 3) := by decide +kernel
theorem d_Qy_parse_39 : decode k_Qy_parse.1 39 = .ok (.aload_n 0, 1) := by decide +kernel
theorem d_Qy_parse_40 : decode k_Qy_parse.1 40 = .ok (.invokevirtual 45, 3) := by decide +kernel
theorem d_Qy_parse_43 : decode k_Qy_parse.1 43 = .ok (.bipush 124, 2) := by decide +kernel
theorem d_Qy_parse_45 : decode k_Qy_parse.1 45 = .ok (.if_icmp .ne 23, 3) := by decide +kernel
theorem d_Qy_parse_48 : decode k_Qy_parse.1 48 = .ok (.aload_n 0, 1) := by decide +kernel
theorem d_Qy_parse_49 : decode k_Qy_parse.1 49 = .ok (.dup, 1) := by decide +kernel
theorem d_Qy_parse_50 : decode k_Qy_parse.1 50 = .ok (.getfield 26, 3) := by decide +kernel
theorem d_Qy_parse_53 : decode k_Qy_parse.1 53 = .ok (.iconst 1, 1) := by decide +kernel
theorem d_Qy_parse_54 : decode k_Qy_parse.1 54 = .ok (.iadd, 1) := by decide +kernel
theorem d_Qy_parse_55 : decode k_Qy_parse.1 55 = .ok (.putfield 26, 3) := by decide +kernel
theorem d_Qy_parse_58 : decode k_Qy_parse.1 58 = .ok (.aload_n 0, 1) := by decide +kernel
theorem d_Qy_parse_59 : decode k_Qy_parse.1 59 = .ok (.invokevirtual 38, 3) := by decide +kernel
theorem d_Qy_parse_62 : decode k_Qy_parse.1 62 = .ok (.iinc 1 1, 3) := by decide +kernel
theorem d_Qy_parse_65 : decode k_Qy_parse.1 65 = .ok (.goto (-39), 3) := by decide +kernel
theorem d_Qy_parse_68 : decode k_Qy_parse.1 68 = .ok (.aload_n 0, 1) := by decide +kernel
theorem d_Qy_parse_69 : decode k_Qy_parse.1 69 = .ok (.getfield 29, 3) := by decide +kernel
theorem d_Qy_parse_72 : decode k_Qy_parse.1 72 = .ok (.ireturn, 1) := by decide +kernel
theorem d_Qy_parseAlternative_0 : decode k_Qy_parseAlternative.1 0 = .ok (.aload_n 0, 1) := by decide +kernel
theorem d_Qy_parseAlternative_1 : decode k_Qy_parseAlternative.1 1 = .ok (.invokevirtual 70, 3) := by decide +kernel
theorem d_Qy_parseAlternative_4 : decode k_Qy_parseAlternative.1 4 = .ok (.aload_n 0, 1) := by decide +kernel
theorem d_Qy_parseAlternative_5 : decode k_Qy_parseAlternative.1 5 = .ok (.invokevirtual 73, 3) := by decide +kernel
theorem d_Qy_parseAlternative_8 : decode k_Qy_parseAlternative.1 8 = .ok (.iconst 0, 1) := by decide +kernel
theorem d_Qy_parseAlternative_9 : decode k_Qy_parseAlternative.1 9 = .ok (.istore_n 1, 1) := by decide +kernel
theorem d_Qy_parseAlternative_10 : decode k_Qy_parseAlternative.1 10 = .ok (.iload_n 1, 1) := by decide +kernel
theorem d_Qy_parseAlternative_11 : decode k_Qy_parseAlternative.1 11 = .ok (.bipush 40, 2) := by decide +kernel
theorem d_Qy_parseAlternative_13 : decode k_Qy_parseAlternative.1 13 = .ok (.if_icmp .ge 27, 3) := by decide +kernel
theorem d_Qy_parseAlternative_16 : decode k_Qy_parseAlternative.1 16 = .ok (.aload_n 0, 1) := by decide +kernel
theorem d_Qy_parseAlternative_17 : decode k_Qy_parseAlternative.1 17 = .ok (.invokevirtual 41, 3) := by decide +kernel
theorem d_Qy_parseAlternative_20 : decode k_Qy_parseAlternative.1 20 = .ok (.ifCond .ne 20, 3) := by decide +kernel
theorem d_Qy_parseAlternative_23 : decode k_Qy_parseAlternative.1 23 = .ok (.aload_n 0, 1) := by decide +kernel
theorem d_Qy_parseAlternative_24 : decode k_Qy_parseAlternative.1 24 = .ok (.invokevirtual 76, 3) := by decide +kernel
theorem d_Qy_parseAlternative_27 : decode k_Qy_parseAlternative.1 27 = .ok (.ifCond .ne 13, 3) := by decide +kernel
theorem d_Qy_parseAlternative_30 : decode k_Qy_parseAlternative.1 30 = .ok (.aload_n 0, 1) := by decide +kernel
theorem d_Qy_parseAlternative_31 : decode k_Qy_parseAlternative.1 31 = .ok (.invokevirtual 73, 3) := by decide +kernel
theorem d_Qy_parseAlternative_34 : decode k_Qy_parseAlternative.1 34 = .ok (.iinc 1 1, 3) := by decide +kernel
theorem d_Qy_parseAlternative_37 : decode k_Qy_parseAlternative.1 37 = .ok (.goto (-27), 3) := by decide +kernel
theorem d_Qy_parseAlternative_40 : decode k_Qy_parseAlternative.1 40 = .ok (.aload_n 0, 1) := by decide +kernel
theorem d_Qy_parseAlternative_41 : decode k_Qy_parseAlternative.1 41 = .ok (.dup, 1) := by decide +kernel
theorem d_Qy_parseAlternative_42 : decode k_Qy_parseAlternative.1 42 = .ok (.getfield 35, 3) := by decide +kernel
theorem d_Qy_parseAlternative_45 : decode k_Qy_parseAlternative.1 45 = .ok (.iconst 1, 1) := by decide +kernel
theorem d_Qy_parseAlternative_46 : decode k_Qy_parseAlternative.1 46 = .ok (.iadd, 1) := by decide +kernel
theorem d_Qy_parseAlternative_47 : decode k_Qy_parseAlternative.1 47 = .ok (.putfield 35, 3) := by decide +kernel
theorem d_Qy_parseAlternative_50 : decode k_Qy_parseAlternative.1 50 = .ok (.return_, 1) := by decide +kernel
theorem d_Qy_skipBlanks_0 : decode k_Qy_skipBlanks.1 0 = .ok (.aload_n 0, 1) := by decide +kernel
theorem d_Qy_skipBlanks_1 : decode k_Qy_skipBlanks.1 1 = .ok (.getfield 26, 3) := by decide +kernel
theorem d_Qy_skipBlanks_4 : decode k_Qy_skipBlanks.1 4 = .ok (.aload_n 0, 1) := by decide +kernel
theorem d_Qy_skipBlanks_5 : decode k_Qy_skipBlanks.1 5 = .ok (.getfield 22, 3) := by decide +kernel
theorem d_Qy_skipBlanks_8 : decode k_Qy_skipBlanks.1 8 = .ok (.if_icmp .ge 30, 3) := by decide +kernel
theorem d_Qy_skipBlanks_11 : decode k_Qy_skipBlanks.1 11 = .ok (.aload_n 0, 1) := by decide +kernel
theorem d_Qy_skipBlanks_12 : decode k_Qy_skipBlanks.1 12 = .ok (.getfield 9, 3) := by decide +kernel
theorem d_Qy_skipBlanks_15 : decode k_Qy_skipBlanks.1 15 = .ok (.aload_n 0, 1) := by decide +kernel
theorem d_Qy_skipBlanks_16 : decode k_Qy_skipBlanks.1 16 = .ok (.getfield 26, 3) := by decide +kernel
theorem d_Qy_skipBlanks_19 : decode k_Qy_skipBlanks.1 19 = .ok (.iaload, 1) := by decide +kernel
theorem d_Qy_skipBlanks_20 : decode k_Qy_skipBlanks.1 20 = .ok (.bipush 32, 2) := by decide +kernel
theorem d_Qy_skipBlanks_22 : decode k_Qy_skipBlanks.1 22 = .ok (.if_icmp .ne 16, 3) := by decide +kernel
theorem d_Qy_skipBlanks_25 : decode k_Qy_skipBlanks.1 25 = .ok (.aload_n 0, 1) := by decide +kernel
theorem d_Qy_skipBlanks_26 : decode k_Qy_skipBlanks.1 26 = .ok (.dup, 1) := by decide +kernel
theorem d_Qy_skipBlanks_27 : decode k_Qy_skipBlanks.1 27 = .ok (.getfield 26, 3) := by decide +kernel
theorem d_Qy_skipBlanks_30 : decode k_Qy_skipBlanks.1 30 = .ok (.iconst 1, 1) := by decide +kernel
theorem d_Qy_skipBlanks_31 : decode k_Qy_skipBlanks.1 31 = .ok (.iadd, 1) := by decide +kernel
theorem d_Qy_skipBlanks_32 : decode k_Qy_skipBlanks.1 32 = .ok (.putfield 26, 3) := by decide +kernel
theorem d_Qy_skipBlanks_35 : decode k_Qy_skipBlanks.1 35 = .ok (.goto (-35), 3) := by decide +kernel
theorem d_Qy_skipBlanks_38 : decode k_Qy_skipBlanks.1 38 = .ok (.return_, 1) := by decide +kernel
theorem d_Qy_parseTerm_0 : decode k_Qy_parseTerm.1 0 = .ok (.aload_n 0, 1) := by decide +kernel
theorem d_Qy_parseTerm_1 : decode k_Qy_parseTerm.1 1 = .ok (.getfield 17, 3) := by decide +kernel
theorem d_Qy_parseTerm_4 : decode k_Qy_parseTerm.1 4 = .ok (.aload_n 0, 1) := by decide +kernel
theorem d_Qy_parseTerm_5 : decode k_Qy_parseTerm.1 5 = .ok (.getfield 32, 3) := by decide +kernel
theorem d_Qy_parseTerm_8 : decode k_Qy_parseTerm.1 8 = .ok (.aaload, 1) := by decide +kernel
theorem d_Qy_parseTerm_9 : decode k_Qy_parseTerm.1 9 = .ok (.astore_n 1, 1) := by decide +kernel
theorem d_Qy_parseTerm_10 : decode k_Qy_parseTerm.1 10 = .ok (.aload_n 1, 1) := by decide +kernel
theorem d_Qy_parseTerm_11 : decode k_Qy_parseTerm.1 11 = .ok (.aload_n 0, 1) := by decide +kernel
theorem d_Qy_parseTerm_12 : decode k_Qy_parseTerm.1 12 = .ok (.getfield 35, 3) := by decide +kernel
theorem d_Qy_parseTerm_15 : decode k_Qy_parseTerm.1 15 = .ok (.invokevirtual 79, 3) := by decide +kernel
theorem d_Qy_parseTerm_18 : decode k_Qy_parseTerm.1 18 = .ok (.aload_n 0, 1) := by decide +kernel
theorem d_Qy_parseTerm_19 : decode k_Qy_parseTerm.1 19 = .ok (.dup, 1) := by decide +kernel
theorem d_Qy_parseTerm_20 : decode k_Qy_parseTerm.1 20 = .ok (.getfield 32, 3) := by decide +kernel
theorem d_Qy_parseTerm_23 : decode k_Qy_parseTerm.1 23 = .ok (.iconst 1, 1) := by decide +kernel
theorem d_Qy_parseTerm_24 : decode k_Qy_parseTerm.1 24 = .ok (.iadd, 1) := by decide +kernel
theorem d_Qy_parseTerm_25 : decode k_Qy_parseTerm.1 25 = .ok (.putfield 32, 3) := by decide +kernel
theorem d_Qy_parseTerm_28 : decode k_Qy_parseTerm.1 28 = .ok (.aload_n 0, 1) := by decide +kernel
theorem d_Qy_parseTerm_29 : decode k_Qy_parseTerm.1 29 = .ok (.invokevirtual 45, 3) := by decide +kernel
theorem d_Qy_parseTerm_32 : decode k_Qy_parseTerm.1 32 = .ok (.bipush 45, 2) := by decide +kernel
theorem d_Qy_parseTerm_34 : decode k_Qy_parseTerm.1 34 = .ok (.if_icmp .ne 17, 3) := by decide +kernel
theorem d_Qy_parseTerm_37 : decode k_Qy_parseTerm.1 37 = .ok (.aload_n 1, 1) := by decide +kernel
theorem d_Qy_parseTerm_38 : decode k_Qy_parseTerm.1 38 = .ok (.invokevirtual 83, 3) := by decide +kernel
theorem d_Qy_parseTerm_41 : decode k_Qy_parseTerm.1 41 = .ok (.aload_n 0, 1) := by decide +kernel
theorem d_Qy_parseTerm_42 : decode k_Qy_parseTerm.1 42 = .ok (.dup, 1) := by decide +kernel
theorem d_Qy_parseTerm_43 : decode k_Qy_parseTerm.1 43 = .ok (.getfield 26, 3) := by decide +kernel
theorem d_Qy_parseTerm_46 : decode k_Qy_parseTerm.1 46 = .ok (.iconst 1, 1) := by decide +kernel
theorem d_Qy_parseTerm_47 : decode k_Qy_parseTerm.1 47 = .ok (.iadd, 1) := by decide +kernel
theorem d_Qy_parseTerm_48 : decode k_Qy_parseTerm.1 48 = .ok (.putfield 26, 3) := by decide +kernel
theorem d_Qy_parseTerm_51 : decode k_Qy_parseTerm.1 51 = .ok (.aload_n 0, 1) := by decide +kernel
theorem d_Qy_parseTerm_52 : decode k_Qy_parseTerm.1 52 = .ok (.invokevirtual 45, 3) := by decide +kernel
theorem d_Qy_parseTerm_55 : decode k_Qy_parseTerm.1 55 = .ok (.bipush 34, 2) := by decide +kernel
theorem d_Qy_parseTerm_57 : decode k_Qy_parseTerm.1 57 = .ok (.if_icmp .ne 21, 3) := by decide +kernel
theorem d_Qy_parseTerm_60 : decode k_Qy_parseTerm.1 60 = .ok (.aload_n 0, 1) := by decide +kernel
theorem d_Qy_parseTerm_61 : decode k_Qy_parseTerm.1 61 = .ok (.dup, 1) := by decide +kernel
theorem d_Qy_parseTerm_62 : decode k_Qy_parseTerm.1 62 = .ok (.getfield 26, 3) := by decide +kernel
theorem d_Qy_parseTerm_65 : decode k_Qy_parseTerm.1 65 = .ok (.iconst 1, 1) := by decide +kernel
theorem d_Qy_parseTerm_66 : decode k_Qy_parseTerm.1 66 = .ok (.iadd, 1) := by decide +kernel
theorem d_Qy_parseTerm_67 : decode k_Qy_parseTerm.1 67 = .ok (.putfield 26, 3) := by decide +kernel
theorem d_Qy_parseTerm_70 : decode k_Qy_parseTerm.1 70 = .ok (.aload_n 0, 1) := by decide +kernel
theorem d_Qy_parseTerm_71 : decode k_Qy_parseTerm.1 71 = .ok (.aload_n 1, 1) := by decide +kernel
theorem d_Qy_parseTerm_72 : decode k_Qy_parseTerm.1 72 = .ok (.invokevirtual 86, 3) := by decide +kernel
theorem d_Qy_parseTerm_75 : decode k_Qy_parseTerm.1 75 = .ok (.goto 8, 3) := by decide +kernel
theorem d_Qy_parseTerm_78 : decode k_Qy_parseTerm.1 78 = .ok (.aload_n 0, 1) := by decide +kernel
theorem d_Qy_parseTerm_79 : decode k_Qy_parseTerm.1 79 = .ok (.aload_n 1, 1) := by decide +kernel
theorem d_Qy_parseTerm_80 : decode k_Qy_parseTerm.1 80 = .ok (.invokevirtual 90, 3) := by decide +kernel
theorem d_Qy_parseTerm_83 : decode k_Qy_parseTerm.1 83 = .ok (.aload_n 0, 1) := by decide +kernel
theorem d_Qy_parseTerm_84 : decode k_Qy_parseTerm.1 84 = .ok (.invokevirtual 41, 3) := by decide +kernel
theorem d_Qy_parseTerm_87 : decode k_Qy_parseTerm.1 87 = .ok (.ifCond .ne 7, 3) := by decide +kernel
theorem d_Qy_parseTerm_90 : decode k_Qy_parseTerm.1 90 = .ok (.aload_n 0, 1) := by decide +kernel
theorem d_Qy_parseTerm_91 : decode k_Qy_parseTerm.1 91 = .ok (.invokevirtual 93, 3) := by decide +kernel
theorem d_Qy_parseTerm_94 : decode k_Qy_parseTerm.1 94 = .ok (.return_, 1) := by decide +kernel
theorem d_Qy_next_0 : decode k_Qy_next.1 0 = .ok (.aload_n 0, 1) := by decide +kernel
theorem d_Qy_next_1 : decode k_Qy_next.1 1 = .ok (.getfield 26, 3) := by decide +kernel
theorem d_Qy_next_4 : decode k_Qy_next.1 4 = .ok (.aload_n 0, 1) := by decide +kernel
theorem d_Qy_next_5 : decode k_Qy_next.1 5 = .ok (.getfield 22, 3) := by decide +kernel
theorem d_Qy_next_8 : decode k_Qy_next.1 8 = .ok (.if_icmp .ge 15, 3) := by decide +kernel
theorem d_Qy_next_11 : decode k_Qy_next.1 11 = .ok (.aload_n 0, 1) := by decide +kernel
theorem d_Qy_next_12 : decode k_Qy_next.1 12 = .ok (.getfield 9, 3) := by decide +kernel
theorem d_Qy_next_15 : decode k_Qy_next.1 15 = .ok (.aload_n 0, 1) := by decide +kernel
theorem d_Qy_next_16 : decode k_Qy_next.1 16 = .ok (.getfield 26, 3) := by decide +kernel
theorem d_Qy_next_19 : decode k_Qy_next.1 19 = .ok (.iaload, 1) := by decide +kernel
theorem d_Qy_next_20 : decode k_Qy_next.1 20 = .ok (.goto 4, 3) := by decide +kernel
theorem d_Qy_next_23 : decode k_Qy_next.1 23 = .ok (.iconst 0, 1) := by decide +kernel
theorem d_Qy_next_24 : decode k_Qy_next.1 24 = .ok (.ireturn, 1) := by decide +kernel
theorem d_Qy_parsePhrase_0 : decode k_Qy_parsePhrase.1 0 = .ok (.aload_n 0, 1) := by decide +kernel
theorem d_Qy_parsePhrase_1 : decode k_Qy_parsePhrase.1 1 = .ok (.invokevirtual 70, 3) := by decide +kernel
theorem d_Qy_parsePhrase_4 : decode k_Qy_parsePhrase.1 4 = .ok (.iconst 0, 1) := by decide +kernel
theorem d_Qy_parsePhrase_5 : decode k_Qy_parsePhrase.1 5 = .ok (.istore_n 2, 1) := by decide +kernel
theorem d_Qy_parsePhrase_6 : decode k_Qy_parsePhrase.1 6 = .ok (.iload_n 2, 1) := by decide +kernel
theorem d_Qy_parsePhrase_7 : decode k_Qy_parsePhrase.1 7 = .ok (.iconst 4, 1) := by decide +kernel
theorem d_Qy_parsePhrase_8 : decode k_Qy_parsePhrase.1 8 = .ok (.if_icmp .ge 35, 3) := by decide +kernel
theorem d_Qy_parsePhrase_11 : decode k_Qy_parsePhrase.1 11 = .ok (.aload_n 0, 1) := by decide +kernel
theorem d_Qy_parsePhrase_12 : decode k_Qy_parsePhrase.1 12 = .ok (.invokevirtual 41, 3) := by decide +kernel
theorem d_Qy_parsePhrase_15 : decode k_Qy_parsePhrase.1 15 = .ok (.ifCond .ne 28, 3) := by decide +kernel
theorem d_Qy_parsePhrase_18 : decode k_Qy_parsePhrase.1 18 = .ok (.aload_n 0, 1) := by decide +kernel
theorem d_Qy_parsePhrase_19 : decode k_Qy_parsePhrase.1 19 = .ok (.invokevirtual 45, 3) := by decide +kernel
theorem d_Qy_parsePhrase_22 : decode k_Qy_parsePhrase.1 22 = .ok (.invokestatic 102, 3) := by decide +kernel
theorem d_Qy_parsePhrase_25 : decode k_Qy_parsePhrase.1 25 = .ok (.ifCond .eq 18, 3) := by decide +kernel
theorem d_Qy_parsePhrase_28 : decode k_Qy_parsePhrase.1 28 = .ok (.aload_n 0, 1) := by decide +kernel
theorem d_Qy_parsePhrase_29 : decode k_Qy_parsePhrase.1 29 = .ok (.aload_n 1, 1) := by decide +kernel
theorem d_Qy_parsePhrase_30 : decode k_Qy_parsePhrase.1 30 = .ok (.invokevirtual 96, 3) := by decide +kernel
theorem d_Qy_parsePhrase_33 : decode k_Qy_parsePhrase.1 33 = .ok (.aload_n 0, 1) := by decide +kernel
theorem d_Qy_parsePhrase_34 : decode k_Qy_parsePhrase.1 34 = .ok (.invokevirtual 70, 3) := by decide +kernel
theorem d_Qy_parsePhrase_37 : decode k_Qy_parsePhrase.1 37 = .ok (.iinc 2 1, 3) := by decide +kernel
theorem d_Qy_parsePhrase_40 : decode k_Qy_parsePhrase.1 40 = .ok (.goto (-34), 3) := by decide +kernel
theorem d_Qy_parsePhrase_43 : decode k_Qy_parsePhrase.1 43 = .ok (.aload_n 0, 1) := by decide +kernel
theorem d_Qy_parsePhrase_44 : decode k_Qy_parsePhrase.1 44 = .ok (.invokevirtual 41, 3) := by decide +kernel
theorem d_Qy_parsePhrase_47 : decode k_Qy_parsePhrase.1 47 = .ok (.ifCond .eq 4, 3) := by decide +kernel
theorem d_Qy_parsePhrase_50 : decode k_Qy_parsePhrase.1 50 = .ok (.return_, 1) := by decide +kernel
theorem d_Qy_parsePhrase_51 : decode k_Qy_parsePhrase.1 51 = .ok (.aload_n 1, 1) := by decide +kernel
theorem d_Qy_parsePhrase_52 : decode k_Qy_parsePhrase.1 52 = .ok (.invokevirtual 105, 3) := by decide +kernel
theorem d_Qy_parsePhrase_55 : decode k_Qy_parsePhrase.1 55 = .ok (.ifCond .ne 12, 3) := by decide +kernel
theorem d_Qy_parsePhrase_58 : decode k_Qy_parsePhrase.1 58 = .ok (.aload_n 0, 1) := by decide +kernel
theorem d_Qy_parsePhrase_59 : decode k_Qy_parsePhrase.1 59 = .ok (.invokevirtual 45, 3) := by decide +kernel
theorem d_Qy_parsePhrase_62 : decode k_Qy_parsePhrase.1 62 = .ok (.bipush 34, 2) := by decide +kernel
theorem d_Qy_parsePhrase_64 : decode k_Qy_parsePhrase.1 64 = .ok (.if_icmp .eq 14, 3) := by decide +kernel
theorem d_Qy_parsePhrase_67 : decode k_Qy_parsePhrase.1 67 = .ok (.aload_n 0, 1) := by decide +kernel
theorem d_Qy_parsePhrase_68 : decode k_Qy_parsePhrase.1 68 = .ok (.aload_n 0, 1) := by decide +kernel
theorem d_Qy_parsePhrase_69 : decode k_Qy_parsePhrase.1 69 = .ok (.getfield 26, 3) := by decide +kernel
theorem d_Qy_parsePhrase_72 : decode k_Qy_parsePhrase.1 72 = .ok (.putfield 29, 3) := by decide +kernel
theorem d_Qy_parsePhrase_75 : decode k_Qy_parsePhrase.1 75 = .ok (.goto 13, 3) := by decide +kernel
theorem d_Qy_parsePhrase_78 : decode k_Qy_parsePhrase.1 78 = .ok (.aload_n 0, 1) := by decide +kernel
theorem d_Qy_parsePhrase_79 : decode k_Qy_parsePhrase.1 79 = .ok (.dup, 1) := by decide +kernel
theorem d_Qy_parsePhrase_80 : decode k_Qy_parsePhrase.1 80 = .ok (.getfield 26, 3) := by decide +kernel
theorem d_Qy_parsePhrase_83 : decode k_Qy_parsePhrase.1 83 = .ok (.iconst 1, 1) := by decide +kernel
theorem d_Qy_parsePhrase_84 : decode k_Qy_parsePhrase.1 84 = .ok (.iadd, 1) := by decide +kernel
theorem d_Qy_parsePhrase_85 : decode k_Qy_parsePhrase.1 85 = .ok (.putfield 26, 3) := by decide +kernel
theorem d_Qy_parsePhrase_88 : decode k_Qy_parsePhrase.1 88 = .ok (.return_, 1) := by decide +kernel
theorem d_Qy_isFaulty_0 : decode k_Qy_isFaulty.1 0 = .ok (.aload_n 0, 1) := by decide +kernel
theorem d_Qy_isFaulty_1 : decode k_Qy_isFaulty.1 1 = .ok (.getfield 29, 3) := by decide +kernel
theorem d_Qy_isFaulty_4 : decode k_Qy_isFaulty.1 4 = .ok (.iconst (-1), 1) := by decide +kernel
theorem d_Qy_isFaulty_5 : decode k_Qy_isFaulty.1 5 = .ok (.if_icmp .eq 7, 3) := by decide +kernel
theorem d_Qy_isFaulty_8 : decode k_Qy_isFaulty.1 8 = .ok (.iconst 1, 1) := by decide +kernel
theorem d_Qy_isFaulty_9 : decode k_Qy_isFaulty.1 9 = .ok (.goto 4, 3) := by decide +kernel
theorem d_Qy_isFaulty_12 : decode k_Qy_isFaulty.1 12 = .ok (.iconst 0, 1) := by decide +kernel
theorem d_Qy_isFaulty_13 : decode k_Qy_isFaulty.1 13 = .ok (.ireturn, 1) := by decide +kernel
theorem d_Qy_parseWord_0 : decode k_Qy_parseWord.1 0 = .ok (.lconst 0, 1) := by decide +kernel
theorem d_Qy_parseWord_1 : decode k_Qy_parseWord.1 1 = .ok (.lstore_n 2, 1) := by decide +kernel
theorem d_Qy_parseWord_2 : decode k_Qy_parseWord.1 2 = .ok (.iconst 0, 1) := by decide +kernel
theorem d_Qy_parseWord_3 : decode k_Qy_parseWord.1 3 = .ok (.istore 4, 2) := by decide +kernel
theorem d_Qy_parseWord_5 : decode k_Qy_parseWord.1 5 = .ok (.iload 4, 2) := by decide +kernel
theorem d_Qy_parseWord_7 : decode k_Qy_parseWord.1 7 = .ok (.bipush 8, 2) := by decide +kernel
theorem d_Qy_parseWord_9 : decode k_Qy_parseWord.1 9 = .ok (.if_icmp .ge 40, 3) := by decide +kernel
theorem d_Qy_parseWord_12 : decode k_Qy_parseWord.1 12 = .ok (.aload_n 0, 1) := by decide +kernel
theorem d_Qy_parseWord_13 : decode k_Qy_parseWord.1 13 = .ok (.invokevirtual 45, 3) := by decide +kernel
theorem d_Qy_parseWord_16 : decode k_Qy_parseWord.1 16 = .ok (.invokestatic 102, 3) := by decide +kernel
theorem d_Qy_parseWord_19 : decode k_Qy_parseWord.1 19 = .ok (.ifCond .eq 30, 3) := by decide +kernel
theorem d_Qy_parseWord_22 : decode k_Qy_parseWord.1 22 = .ok (.lload_n 2, 1) := by decide +kernel
theorem d_Qy_parseWord_23 : decode k_Qy_parseWord.1 23 = .ok (.iload 4, 2) := by decide +kernel
theorem d_Qy_parseWord_25 : decode k_Qy_parseWord.1 25 = .ok (.aload_n 0, 1) := by decide +kernel
theorem d_Qy_parseWord_26 : decode k_Qy_parseWord.1 26 = .ok (.invokevirtual 45, 3) := by decide +kernel
theorem d_Qy_parseWord_29 : decode k_Qy_parseWord.1 29 = .ok (.invokestatic 108, 3) := by decide +kernel
theorem d_Qy_parseWord_32 : decode k_Qy_parseWord.1 32 = .ok (.lstore_n 2, 1) := by decide +kernel
theorem d_Qy_parseWord_33 : decode k_Qy_parseWord.1 33 = .ok (.iinc 4 1, 3) := by decide +kernel
theorem d_Qy_parseWord_36 : decode k_Qy_parseWord.1 36 = .ok (.aload_n 0, 1) := by decide +kernel
theorem d_Qy_parseWord_37 : decode k_Qy_parseWord.1 37 = .ok (.dup, 1) := by decide +kernel
theorem d_Qy_parseWord_38 : decode k_Qy_parseWord.1 38 = .ok (.getfield 26, 3) := by decide +kernel
theorem d_Qy_parseWord_41 : decode k_Qy_parseWord.1 41 = .ok (.iconst 1, 1) := by decide +kernel
theorem d_Qy_parseWord_42 : decode k_Qy_parseWord.1 42 = .ok (.iadd, 1) := by decide +kernel
theorem d_Qy_parseWord_43 : decode k_Qy_parseWord.1 43 = .ok (.putfield 26, 3) := by decide +kernel
theorem d_Qy_parseWord_46 : decode k_Qy_parseWord.1 46 = .ok (.goto (-41), 3) := by decide +kernel
theorem d_Qy_parseWord_49 : decode k_Qy_parseWord.1 49 = .ok (.iload 4, 2) := by decide +kernel
theorem d_Qy_parseWord_51 : decode k_Qy_parseWord.1 51 = .ok (.ifCond .eq 13, 3) := by decide +kernel
theorem d_Qy_parseWord_54 : decode k_Qy_parseWord.1 54 = .ok (.aload_n 0, 1) := by decide +kernel
theorem d_Qy_parseWord_55 : decode k_Qy_parseWord.1 55 = .ok (.invokevirtual 45, 3) := by decide +kernel
theorem d_Qy_parseWord_58 : decode k_Qy_parseWord.1 58 = .ok (.invokestatic 102, 3) := by decide +kernel
theorem d_Qy_parseWord_61 : decode k_Qy_parseWord.1 61 = .ok (.ifCond .eq 14, 3) := by decide +kernel
theorem d_Qy_parseWord_64 : decode k_Qy_parseWord.1 64 = .ok (.aload_n 0, 1) := by decide +kernel
theorem d_Qy_parseWord_65 : decode k_Qy_parseWord.1 65 = .ok (.aload_n 0, 1) := by decide +kernel
theorem d_Qy_parseWord_66 : decode k_Qy_parseWord.1 66 = .ok (.getfield 26, 3) := by decide +kernel
theorem d_Qy_parseWord_69 : decode k_Qy_parseWord.1 69 = .ok (.putfield 29, 3) := by decide +kernel
theorem d_Qy_parseWord_72 : decode k_Qy_parseWord.1 72 = .ok (.goto 8, 3) := by decide +kernel
theorem d_Qy_parseWord_75 : decode k_Qy_parseWord.1 75 = .ok (.aload_n 1, 1) := by decide +kernel
theorem d_Qy_parseWord_76 : decode k_Qy_parseWord.1 76 = .ok (.lload_n 2, 1) := by decide +kernel
theorem d_Qy_parseWord_77 : decode k_Qy_parseWord.1 77 = .ok (.invokevirtual 112, 3) := by decide +kernel
theorem d_Qy_parseWord_80 : decode k_Qy_parseWord.1 80 = .ok (.return_, 1) := by decide +kernel
theorem d_Qy_parseWordOrBeginning_0 : decode k_Qy_parseWordOrBeginning.1 0 = .ok (.aload_n 0, 1) := by decide +kernel
theorem d_Qy_parseWordOrBeginning_1 : decode k_Qy_parseWordOrBeginning.1 1 = .ok (.getfield 26, 3) := by decide +kernel
theorem d_Qy_parseWordOrBeginning_4 : decode k_Qy_parseWordOrBeginning.1 4 = .ok (.istore_n 2, 1) := by decide +kernel
theorem d_Qy_parseWordOrBeginning_5 : decode k_Qy_parseWordOrBeginning.1 5 = .ok (.aload_n 0, 1) := by decide +kernel
theorem d_Qy_parseWordOrBeginning_6 : decode k_Qy_parseWordOrBeginning.1 6 = .ok (.aload_n 1, 1) := by decide +kernel
theorem d_Qy_parseWordOrBeginning_7 : decode k_Qy_parseWordOrBeginning.1 7 = .ok (.invokevirtual 96, 3) := by decide +kernel
theorem d_Qy_parseWordOrBeginning_10 : decode k_Qy_parseWordOrBeginning.1 10 = .ok (.aload_n 0, 1) := by decide +kernel
theorem d_Qy_parseWordOrBeginning_11 : decode k_Qy_parseWordOrBeginning.1 11 = .ok (.invokevirtual 41, 3) := by decide +kernel
theorem d_Qy_parseWordOrBeginning_14 : decode k_Qy_parseWordOrBeginning.1 14 = .ok (.ifCond .ne 32, 3) := by decide +kernel
theorem d_Qy_parseWordOrBeginning_17 : decode k_Qy_parseWordOrBeginning.1 17 = .ok (.aload_n 0, 1) := by decide +kernel
theorem d_Qy_parseWordOrBeginning_18 : decode k_Qy_parseWordOrBeginning.1 18 = .ok (.invokevirtual 45, 3) := by decide +kernel
theorem d_Qy_parseWordOrBeginning_21 : decode k_Qy_parseWordOrBeginning.1 21 = .ok (.bipush 42, 2) := by decide +kernel
theorem d_Qy_parseWordOrBeginning_23 : decode k_Qy_parseWordOrBeginning.1 23 = .ok (.if_icmp .ne 23, 3) := by decide +kernel
theorem d_Qy_parseWordOrBeginning_26 : decode k_Qy_parseWordOrBeginning.1 26 = .ok (.aload_n 1, 1) := by decide +kernel
theorem d_Qy_parseWordOrBeginning_27 : decode k_Qy_parseWordOrBeginning.1 27 = .ok (.aload_n 0, 1) := by decide +kernel
theorem d_Qy_parseWordOrBeginning_28 : decode k_Qy_parseWordOrBeginning.1 28 = .ok (.getfield 26, 3) := by decide +kernel
theorem d_Qy_parseWordOrBeginning_31 : decode k_Qy_parseWordOrBeginning.1 31 = .ok (.iload_n 2, 1) := by decide +kernel
theorem d_Qy_parseWordOrBeginning_32 : decode k_Qy_parseWordOrBeginning.1 32 = .ok (.isub, 1) := by decide +kernel
theorem d_Qy_parseWordOrBeginning_33 : decode k_Qy_parseWordOrBeginning.1 33 = .ok (.invokevirtual 99, 3) := by decide +kernel
theorem d_Qy_parseWordOrBeginning_36 : decode k_Qy_parseWordOrBeginning.1 36 = .ok (.aload_n 0, 1) := by decide +kernel
theorem d_Qy_parseWordOrBeginning_37 : decode k_Qy_parseWordOrBeginning.1 37 = .ok (.dup, 1) := by decide +kernel
theorem d_Qy_parseWordOrBeginning_38 : decode k_Qy_parseWordOrBeginning.1 38 = .ok (.getfield 26, 3) := by decide +kernel
theorem d_Qy_parseWordOrBeginning_41 : decode k_Qy_parseWordOrBeginning.1 41 = .ok (.iconst 1, 1) := by decide +kernel
theorem d_Qy_parseWordOrBeginning_42 : decode k_Qy_parseWordOrBeginning.1 42 = .ok (.iadd, 1) := by decide +kernel
theorem d_Qy_parseWordOrBeginning_43 : decode k_Qy_parseWordOrBeginning.1 43 = .ok (.putfield 26, 3) := by decide +kernel
theorem d_Qy_parseWordOrBeginning_46 : decode k_Qy_parseWordOrBeginning.1 46 = .ok (.return_, 1) := by decide +kernel
theorem d_Qy_endTerm_0 : decode k_Qy_endTerm.1 0 = .ok (.aload_n 0, 1) := by decide +kernel
theorem d_Qy_endTerm_1 : decode k_Qy_endTerm.1 1 = .ok (.invokevirtual 45, 3) := by decide +kernel
theorem d_Qy_endTerm_4 : decode k_Qy_endTerm.1 4 = .ok (.bipush 32, 2) := by decide +kernel
theorem d_Qy_endTerm_6 : decode k_Qy_endTerm.1 6 = .ok (.if_icmp .eq 18, 3) := by decide +kernel
theorem d_Qy_endTerm_9 : decode k_Qy_endTerm.1 9 = .ok (.aload_n 0, 1) := by decide +kernel
theorem d_Qy_endTerm_10 : decode k_Qy_endTerm.1 10 = .ok (.invokevirtual 76, 3) := by decide +kernel
theorem d_Qy_endTerm_13 : decode k_Qy_endTerm.1 13 = .ok (.ifCond .ne 11, 3) := by decide +kernel
theorem d_Qy_endTerm_16 : decode k_Qy_endTerm.1 16 = .ok (.aload_n 0, 1) := by decide +kernel
theorem d_Qy_endTerm_17 : decode k_Qy_endTerm.1 17 = .ok (.aload_n 0, 1) := by decide +kernel
theorem d_Qy_endTerm_18 : decode k_Qy_endTerm.1 18 = .ok (.getfield 26, 3) := by decide +kernel
theorem d_Qy_endTerm_21 : decode k_Qy_endTerm.1 21 = .ok (.putfield 29, 3) := by decide +kernel
theorem d_Qy_endTerm_24 : decode k_Qy_endTerm.1 24 = .ok (.aload_n 0, 1) := by decide +kernel
theorem d_Qy_endTerm_25 : decode k_Qy_endTerm.1 25 = .ok (.invokevirtual 70, 3) := by decide +kernel
theorem d_Qy_endTerm_28 : decode k_Qy_endTerm.1 28 = .ok (.return_, 1) := by decide +kernel
theorem d_Qy_atAlternativeEnd_0 : decode k_Qy_atAlternativeEnd.1 0 = .ok (.aload_n 0, 1) := by decide +kernel
theorem d_Qy_atAlternativeEnd_1 : decode k_Qy_atAlternativeEnd.1 1 = .ok (.invokevirtual 45, 3) := by decide +kernel
theorem d_Qy_atAlternativeEnd_4 : decode k_Qy_atAlternativeEnd.1 4 = .ok (.ifCond .eq 12, 3) := by decide +kernel
theorem d_Qy_atAlternativeEnd_7 : decode k_Qy_atAlternativeEnd.1 7 = .ok (.aload_n 0, 1) := by decide +kernel
theorem d_Qy_atAlternativeEnd_8 : decode k_Qy_atAlternativeEnd.1 8 = .ok (.invokevirtual 45, 3) := by decide +kernel
theorem d_Qy_atAlternativeEnd_11 : decode k_Qy_atAlternativeEnd.1 11 = .ok (.bipush 124, 2) := by decide +kernel
theorem d_Qy_atAlternativeEnd_13 : decode k_Qy_atAlternativeEnd.1 13 = .ok (.if_icmp .ne 7, 3) := by decide +kernel
theorem d_Qy_atAlternativeEnd_16 : decode k_Qy_atAlternativeEnd.1 16 = .ok (.iconst 1, 1) := by decide +kernel
theorem d_Qy_atAlternativeEnd_17 : decode k_Qy_atAlternativeEnd.1 17 = .ok (.goto 4, 3) := by decide +kernel
theorem d_Qy_atAlternativeEnd_20 : decode k_Qy_atAlternativeEnd.1 20 = .ok (.iconst 0, 1) := by decide +kernel
theorem d_Qy_atAlternativeEnd_21 : decode k_Qy_atAlternativeEnd.1 21 = .ok (.ireturn, 1) := by decide +kernel
theorem d_Qy_clearText_0 : decode k_Qy_clearText.1 0 = .ok (.aload_n 0, 1) := by decide +kernel
theorem d_Qy_clearText_1 : decode k_Qy_clearText.1 1 = .ok (.iconst 0, 1) := by decide +kernel
theorem d_Qy_clearText_2 : decode k_Qy_clearText.1 2 = .ok (.putfield 22, 3) := by decide +kernel
theorem d_Qy_clearText_5 : decode k_Qy_clearText.1 5 = .ok (.return_, 1) := by decide +kernel
theorem d_Qy_scoreOf_0 : decode k_Qy_scoreOf.1 0 = .ok (.iconst (-1), 1) := by decide +kernel
theorem d_Qy_scoreOf_1 : decode k_Qy_scoreOf.1 1 = .ok (.istore_n 2, 1) := by decide +kernel
theorem d_Qy_scoreOf_2 : decode k_Qy_scoreOf.1 2 = .ok (.iconst 0, 1) := by decide +kernel
theorem d_Qy_scoreOf_3 : decode k_Qy_scoreOf.1 3 = .ok (.istore_n 3, 1) := by decide +kernel
theorem d_Qy_scoreOf_4 : decode k_Qy_scoreOf.1 4 = .ok (.iload_n 3, 1) := by decide +kernel
theorem d_Qy_scoreOf_5 : decode k_Qy_scoreOf.1 5 = .ok (.aload_n 0, 1) := by decide +kernel
theorem d_Qy_scoreOf_6 : decode k_Qy_scoreOf.1 6 = .ok (.getfield 35, 3) := by decide +kernel
theorem d_Qy_scoreOf_9 : decode k_Qy_scoreOf.1 9 = .ok (.if_icmp .ge 32, 3) := by decide +kernel
theorem d_Qy_scoreOf_12 : decode k_Qy_scoreOf.1 12 = .ok (.aload_n 0, 1) := by decide +kernel
theorem d_Qy_scoreOf_13 : decode k_Qy_scoreOf.1 13 = .ok (.aload_n 1, 1) := by decide +kernel
theorem d_Qy_scoreOf_14 : decode k_Qy_scoreOf.1 14 = .ok (.iload_n 3, 1) := by decide +kernel
theorem d_Qy_scoreOf_15 : decode k_Qy_scoreOf.1 15 = .ok (.invokevirtual 49, 3) := by decide +kernel
theorem d_Qy_scoreOf_18 : decode k_Qy_scoreOf.1 18 = .ok (.istore 4, 2) := by decide +kernel
theorem d_Qy_scoreOf_20 : decode k_Qy_scoreOf.1 20 = .ok (.iload 4, 2) := by decide +kernel
theorem d_Qy_scoreOf_22 : decode k_Qy_scoreOf.1 22 = .ok (.iconst (-1), 1) := by decide +kernel
theorem d_Qy_scoreOf_23 : decode k_Qy_scoreOf.1 23 = .ok (.if_icmp .eq 12, 3) := by decide +kernel
theorem d_Qy_scoreOf_26 : decode k_Qy_scoreOf.1 26 = .ok (.iload_n 2, 1) := by decide +kernel
theorem d_Qy_scoreOf_27 : decode k_Qy_scoreOf.1 27 = .ok (.iconst 0, 1) := by decide +kernel
theorem d_Qy_scoreOf_28 : decode k_Qy_scoreOf.1 28 = .ok (.invokestatic 53, 3) := by decide +kernel
theorem d_Qy_scoreOf_31 : decode k_Qy_scoreOf.1 31 = .ok (.iload 4, 2) := by decide +kernel
theorem d_Qy_scoreOf_33 : decode k_Qy_scoreOf.1 33 = .ok (.iadd, 1) := by decide +kernel
theorem d_Qy_scoreOf_34 : decode k_Qy_scoreOf.1 34 = .ok (.istore_n 2, 1) := by decide +kernel
theorem d_Qy_scoreOf_35 : decode k_Qy_scoreOf.1 35 = .ok (.iinc 3 1, 3) := by decide +kernel
theorem d_Qy_scoreOf_38 : decode k_Qy_scoreOf.1 38 = .ok (.goto (-34), 3) := by decide +kernel
theorem d_Qy_scoreOf_41 : decode k_Qy_scoreOf.1 41 = .ok (.iload_n 2, 1) := by decide +kernel
theorem d_Qy_scoreOf_42 : decode k_Qy_scoreOf.1 42 = .ok (.ireturn, 1) := by decide +kernel
theorem d_Qy_partOf_0 : decode k_Qy_partOf.1 0 = .ok (.iconst 0, 1) := by decide +kernel
theorem d_Qy_partOf_1 : decode k_Qy_partOf.1 1 = .ok (.istore_n 3, 1) := by decide +kernel
theorem d_Qy_partOf_2 : decode k_Qy_partOf.1 2 = .ok (.iconst 0, 1) := by decide +kernel
theorem d_Qy_partOf_3 : decode k_Qy_partOf.1 3 = .ok (.istore 4, 2) := by decide +kernel
theorem d_Qy_partOf_5 : decode k_Qy_partOf.1 5 = .ok (.iload 4, 2) := by decide +kernel
theorem d_Qy_partOf_7 : decode k_Qy_partOf.1 7 = .ok (.aload_n 0, 1) := by decide +kernel
theorem d_Qy_partOf_8 : decode k_Qy_partOf.1 8 = .ok (.getfield 32, 3) := by decide +kernel
theorem d_Qy_partOf_11 : decode k_Qy_partOf.1 11 = .ok (.if_icmp .ge 70, 3) := by decide +kernel
theorem d_Qy_partOf_14 : decode k_Qy_partOf.1 14 = .ok (.aload_n 0, 1) := by decide +kernel
theorem d_Qy_partOf_15 : decode k_Qy_partOf.1 15 = .ok (.getfield 17, 3) := by decide +kernel
theorem d_Qy_partOf_18 : decode k_Qy_partOf.1 18 = .ok (.iload 4, 2) := by decide +kernel
theorem d_Qy_partOf_20 : decode k_Qy_partOf.1 20 = .ok (.aaload, 1) := by decide +kernel
theorem d_Qy_partOf_21 : decode k_Qy_partOf.1 21 = .ok (.iload_n 2, 1) := by decide +kernel
theorem d_Qy_partOf_22 : decode k_Qy_partOf.1 22 = .ok (.invokevirtual 59, 3) := by decide +kernel
theorem d_Qy_partOf_25 : decode k_Qy_partOf.1 25 = .ok (.ifCond .eq 50, 3) := by decide +kernel
theorem d_Qy_partOf_28 : decode k_Qy_partOf.1 28 = .ok (.aload_n 0, 1) := by decide +kernel
theorem d_Qy_partOf_29 : decode k_Qy_partOf.1 29 = .ok (.getfield 17, 3) := by decide +kernel
theorem d_Qy_partOf_32 : decode k_Qy_partOf.1 32 = .ok (.iload 4, 2) := by decide +kernel
theorem d_Qy_partOf_34 : decode k_Qy_partOf.1 34 = .ok (.aaload, 1) := by decide +kernel
theorem d_Qy_partOf_35 : decode k_Qy_partOf.1 35 = .ok (.aload_n 1, 1) := by decide +kernel
theorem d_Qy_partOf_36 : decode k_Qy_partOf.1 36 = .ok (.invokevirtual 63, 3) := by decide +kernel
theorem d_Qy_partOf_39 : decode k_Qy_partOf.1 39 = .ok (.istore 5, 2) := by decide +kernel
theorem d_Qy_partOf_41 : decode k_Qy_partOf.1 41 = .ok (.iload 5, 2) := by decide +kernel
theorem d_Qy_partOf_43 : decode k_Qy_partOf.1 43 = .ok (.ifCond .le 7, 3) := by decide +kernel
theorem d_Qy_partOf_46 : decode k_Qy_partOf.1 46 = .ok (.iconst 1, 1) := by decide +kernel
theorem d_Qy_partOf_47 : decode k_Qy_partOf.1 47 = .ok (.goto 4, 3) := by decide +kernel
theorem d_Qy_partOf_50 : decode k_Qy_partOf.1 50 = .ok (.iconst 0, 1) := by decide +kernel
theorem d_Qy_partOf_51 : decode k_Qy_partOf.1 51 = .ok (.istore 6, 2) := by decide +kernel
theorem d_Qy_partOf_53 : decode k_Qy_partOf.1 53 = .ok (.iload 6, 2) := by decide +kernel
theorem d_Qy_partOf_55 : decode k_Qy_partOf.1 55 = .ok (.aload_n 0, 1) := by decide +kernel
theorem d_Qy_partOf_56 : decode k_Qy_partOf.1 56 = .ok (.getfield 17, 3) := by decide +kernel
theorem d_Qy_partOf_59 : decode k_Qy_partOf.1 59 = .ok (.iload 4, 2) := by decide +kernel
theorem d_Qy_partOf_61 : decode k_Qy_partOf.1 61 = .ok (.aaload, 1) := by decide +kernel
theorem d_Qy_partOf_62 : decode k_Qy_partOf.1 62 = .ok (.invokevirtual 67, 3) := by decide +kernel
theorem d_Qy_partOf_65 : decode k_Qy_partOf.1 65 = .ok (.if_icmp .ne 5, 3) := by decide +kernel
theorem d_Qy_partOf_68 : decode k_Qy_partOf.1 68 = .ok (.iconst (-1), 1) := by decide +kernel
theorem d_Qy_partOf_69 : decode k_Qy_partOf.1 69 = .ok (.ireturn, 1) := by decide +kernel
theorem d_Qy_partOf_70 : decode k_Qy_partOf.1 70 = .ok (.iload_n 3, 1) := by decide +kernel
theorem d_Qy_partOf_71 : decode k_Qy_partOf.1 71 = .ok (.iload 5, 2) := by decide +kernel
theorem d_Qy_partOf_73 : decode k_Qy_partOf.1 73 = .ok (.iadd, 1) := by decide +kernel
theorem d_Qy_partOf_74 : decode k_Qy_partOf.1 74 = .ok (.istore_n 3, 1) := by decide +kernel
theorem d_Qy_partOf_75 : decode k_Qy_partOf.1 75 = .ok (.iinc 4 1, 3) := by decide +kernel
theorem d_Qy_partOf_78 : decode k_Qy_partOf.1 78 = .ok (.goto (-73), 3) := by decide +kernel
theorem d_Qy_partOf_81 : decode k_Qy_partOf.1 81 = .ok (.iload_n 3, 1) := by decide +kernel
theorem d_Qy_partOf_82 : decode k_Qy_partOf.1 82 = .ok (.ireturn, 1) := by decide +kernel
end
section
theorem d_Rk_init_0 : decode k_Rk_init.1 0 = .ok (.aload_n 0, 1) := by decide +kernel
theorem d_Rk_init_1 : decode k_Rk_init.1 1 = .ok (.invokespecial 3, 3) := by decide +kernel
theorem d_Rk_init_4 : decode k_Rk_init.1 4 = .ok (.aload_n 0, 1) := by decide +kernel
theorem d_Rk_init_5 : decode k_Rk_init.1 5 = .ok (.bipush 16, 2) := by decide +kernel
theorem d_Rk_init_7 : decode k_Rk_init.1 7 = .ok (.newarray .int, 2) := by decide +kernel
theorem d_Rk_init_9 : decode k_Rk_init.1 9 = .ok (.putfield 9, 3) := by decide +kernel
theorem d_Rk_init_12 : decode k_Rk_init.1 12 = .ok (.aload_n 0, 1) := by decide +kernel
theorem d_Rk_init_13 : decode k_Rk_init.1 13 = .ok (.bipush 16, 2) := by decide +kernel
theorem d_Rk_init_15 : decode k_Rk_init.1 15 = .ok (.newarray .int, 2) := by decide +kernel
theorem d_Rk_init_17 : decode k_Rk_init.1 17 = .ok (.putfield 15, 3) := by decide +kernel
theorem d_Rk_init_20 : decode k_Rk_init.1 20 = .ok (.return_, 1) := by decide +kernel
theorem d_Rk_clear_0 : decode k_Rk_clear.1 0 = .ok (.aload_n 0, 1) := by decide +kernel
theorem d_Rk_clear_1 : decode k_Rk_clear.1 1 = .ok (.iconst 0, 1) := by decide +kernel
theorem d_Rk_clear_2 : decode k_Rk_clear.1 2 = .ok (.putfield 18, 3) := by decide +kernel
theorem d_Rk_clear_5 : decode k_Rk_clear.1 5 = .ok (.return_, 1) := by decide +kernel
theorem d_Rk_add_0 : decode k_Rk_add.1 0 = .ok (.aload_n 0, 1) := by decide +kernel
theorem d_Rk_add_1 : decode k_Rk_add.1 1 = .ok (.getfield 18, 3) := by decide +kernel
theorem d_Rk_add_4 : decode k_Rk_add.1 4 = .ok (.istore_n 3, 1) := by decide +kernel
theorem d_Rk_add_5 : decode k_Rk_add.1 5 = .ok (.iload_n 3, 1) := by decide +kernel
theorem d_Rk_add_6 : decode k_Rk_add.1 6 = .ok (.ifCond .le 49, 3) := by decide +kernel
theorem d_Rk_add_9 : decode k_Rk_add.1 9 = .ok (.aload_n 0, 1) := by decide +kernel
theorem d_Rk_add_10 : decode k_Rk_add.1 10 = .ok (.getfield 15, 3) := by decide +kernel
theorem d_Rk_add_13 : decode k_Rk_add.1 13 = .ok (.iload_n 3, 1) := by decide +kernel
theorem d_Rk_add_14 : decode k_Rk_add.1 14 = .ok (.iconst 1, 1) := by decide +kernel
theorem d_Rk_add_15 : decode k_Rk_add.1 15 = .ok (.isub, 1) := by decide +kernel
theorem d_Rk_add_16 : decode k_Rk_add.1 16 = .ok (.iaload, 1) := by decide +kernel
theorem d_Rk_add_17 : decode k_Rk_add.1 17 = .ok (.iload_n 2, 1) := by decide +kernel
theorem d_Rk_add_18 : decode k_Rk_add.1 18 = .ok (.if_icmp .ge 37, 3) := by decide +kernel
theorem d_Rk_add_21 : decode k_Rk_add.1 21 = .ok (.aload_n 0, 1) := by decide +kernel
theorem d_Rk_add_22 : decode k_Rk_add.1 22 = .ok (.getfield 9, 3) := by decide +kernel
theorem d_Rk_add_25 : decode k_Rk_add.1 25 = .ok (.iload_n 3, 1) := by decide +kernel
theorem d_Rk_add_26 : decode k_Rk_add.1 26 = .ok (.aload_n 0, 1) := by decide +kernel
theorem d_Rk_add_27 : decode k_Rk_add.1 27 = .ok (.getfield 9, 3) := by decide +kernel
theorem d_Rk_add_30 : decode k_Rk_add.1 30 = .ok (.iload_n 3, 1) := by decide +kernel
theorem d_Rk_add_31 : decode k_Rk_add.1 31 = .ok (.iconst 1, 1) := by decide +kernel
theorem d_Rk_add_32 : decode k_Rk_add.1 32 = .ok (.isub, 1) := by decide +kernel
theorem d_Rk_add_33 : decode k_Rk_add.1 33 = .ok (.iaload, 1) := by decide +kernel
theorem d_Rk_add_34 : decode k_Rk_add.1 34 = .ok (.iastore, 1) := by decide +kernel
theorem d_Rk_add_35 : decode k_Rk_add.1 35 = .ok (.aload_n 0, 1) := by decide +kernel
theorem d_Rk_add_36 : decode k_Rk_add.1 36 = .ok (.getfield 15, 3) := by decide +kernel
theorem d_Rk_add_39 : decode k_Rk_add.1 39 = .ok (.iload_n 3, 1) := by decide +kernel
theorem d_Rk_add_40 : decode k_Rk_add.1 40 = .ok (.aload_n 0, 1) := by decide +kernel
theorem d_Rk_add_41 : decode k_Rk_add.1 41 = .ok (.getfield 15, 3) := by decide +kernel
theorem d_Rk_add_44 : decode k_Rk_add.1 44 = .ok (.iload_n 3, 1) := by decide +kernel
theorem d_Rk_add_45 : decode k_Rk_add.1 45 = .ok (.iconst 1, 1) := by decide +kernel
theorem d_Rk_add_46 : decode k_Rk_add.1 46 = .ok (.isub, 1) := by decide +kernel
theorem d_Rk_add_47 : decode k_Rk_add.1 47 = .ok (.iaload, 1) := by decide +kernel
theorem d_Rk_add_48 : decode k_Rk_add.1 48 = .ok (.iastore, 1) := by decide +kernel
theorem d_Rk_add_49 : decode k_Rk_add.1 49 = .ok (.iinc 3 (-1), 3) := by decide +kernel
theorem d_Rk_add_52 : decode k_Rk_add.1 52 = .ok (.goto (-47), 3) := by decide +kernel
theorem d_Rk_add_55 : decode k_Rk_add.1 55 = .ok (.aload_n 0, 1) := by decide +kernel
theorem d_Rk_add_56 : decode k_Rk_add.1 56 = .ok (.getfield 9, 3) := by decide +kernel
theorem d_Rk_add_59 : decode k_Rk_add.1 59 = .ok (.iload_n 3, 1) := by decide +kernel
theorem d_Rk_add_60 : decode k_Rk_add.1 60 = .ok (.iload_n 1, 1) := by decide +kernel
theorem d_Rk_add_61 : decode k_Rk_add.1 61 = .ok (.iastore, 1) := by decide +kernel
theorem d_Rk_add_62 : decode k_Rk_add.1 62 = .ok (.aload_n 0, 1) := by decide +kernel
theorem d_Rk_add_63 : decode k_Rk_add.1 63 = .ok (.getfield 15, 3) := by decide +kernel
theorem d_Rk_add_66 : decode k_Rk_add.1 66 = .ok (.iload_n 3, 1) := by decide +kernel
theorem d_Rk_add_67 : decode k_Rk_add.1 67 = .ok (.iload_n 2, 1) := by decide +kernel
theorem d_Rk_add_68 : decode k_Rk_add.1 68 = .ok (.iastore, 1) := by decide +kernel
theorem d_Rk_add_69 : decode k_Rk_add.1 69 = .ok (.aload_n 0, 1) := by decide +kernel
theorem d_Rk_add_70 : decode k_Rk_add.1 70 = .ok (.dup, 1) := by decide +kernel
theorem d_Rk_add_71 : decode k_Rk_add.1 71 = .ok (.getfield 18, 3) := by decide +kernel
theorem d_Rk_add_74 : decode k_Rk_add.1 74 = .ok (.iconst 1, 1) := by decide +kernel
theorem d_Rk_add_75 : decode k_Rk_add.1 75 = .ok (.iadd, 1) := by decide +kernel
theorem d_Rk_add_76 : decode k_Rk_add.1 76 = .ok (.putfield 18, 3) := by decide +kernel
theorem d_Rk_add_79 : decode k_Rk_add.1 79 = .ok (.return_, 1) := by decide +kernel
theorem d_Rk_size_0 : decode k_Rk_size.1 0 = .ok (.aload_n 0, 1) := by decide +kernel
theorem d_Rk_size_1 : decode k_Rk_size.1 1 = .ok (.getfield 18, 3) := by decide +kernel
theorem d_Rk_size_4 : decode k_Rk_size.1 4 = .ok (.ireturn, 1) := by decide +kernel
theorem d_Rk_fileAt_0 : decode k_Rk_fileAt.1 0 = .ok (.aload_n 0, 1) := by decide +kernel
theorem d_Rk_fileAt_1 : decode k_Rk_fileAt.1 1 = .ok (.getfield 9, 3) := by decide +kernel
theorem d_Rk_fileAt_4 : decode k_Rk_fileAt.1 4 = .ok (.iload_n 1, 1) := by decide +kernel
theorem d_Rk_fileAt_5 : decode k_Rk_fileAt.1 5 = .ok (.iaload, 1) := by decide +kernel
theorem d_Rk_fileAt_6 : decode k_Rk_fileAt.1 6 = .ok (.ireturn, 1) := by decide +kernel
theorem d_Rk_scoreAt_0 : decode k_Rk_scoreAt.1 0 = .ok (.aload_n 0, 1) := by decide +kernel
theorem d_Rk_scoreAt_1 : decode k_Rk_scoreAt.1 1 = .ok (.getfield 15, 3) := by decide +kernel
theorem d_Rk_scoreAt_4 : decode k_Rk_scoreAt.1 4 = .ok (.iload_n 1, 1) := by decide +kernel
theorem d_Rk_scoreAt_5 : decode k_Rk_scoreAt.1 5 = .ok (.iaload, 1) := by decide +kernel
theorem d_Rk_scoreAt_6 : decode k_Rk_scoreAt.1 6 = .ok (.ireturn, 1) := by decide +kernel
end
section
theorem d_Tm_init_0 : decode k_Tm_init.1 0 = .ok (.aload_n 0, 1) := by decide +kernel
theorem d_Tm_init_1 : decode k_Tm_init.1 1 = .ok (.invokespecial 3, 3) := by decide +kernel
theorem d_Tm_init_4 : decode k_Tm_init.1 4 = .ok (.aload_n 0, 1) := by decide +kernel
theorem d_Tm_init_5 : decode k_Tm_init.1 5 = .ok (.iconst 4, 1) := by decide +kernel
theorem d_Tm_init_6 : decode k_Tm_init.1 6 = .ok (.newarray .long, 2) := by decide +kernel
theorem d_Tm_init_8 : decode k_Tm_init.1 8 = .ok (.putfield 9, 3) := by decide +kernel
theorem d_Tm_init_11 : decode k_Tm_init.1 11 = .ok (.return_, 1) := by decide +kernel
theorem d_Tm_begin_0 : decode k_Tm_begin.1 0 = .ok (.aload_n 0, 1) := by decide +kernel
theorem d_Tm_begin_1 : decode k_Tm_begin.1 1 = .ok (.iconst 0, 1) := by decide +kernel
theorem d_Tm_begin_2 : decode k_Tm_begin.1 2 = .ok (.putfield 15, 3) := by decide +kernel
theorem d_Tm_begin_5 : decode k_Tm_begin.1 5 = .ok (.aload_n 0, 1) := by decide +kernel
theorem d_Tm_begin_6 : decode k_Tm_begin.1 6 = .ok (.iload_n 1, 1) := by decide +kernel
theorem d_Tm_begin_7 : decode k_Tm_begin.1 7 = .ok (.putfield 19, 3) := by decide +kernel
theorem d_Tm_begin_10 : decode k_Tm_begin.1 10 = .ok (.aload_n 0, 1) := by decide +kernel
theorem d_Tm_begin_11 : decode k_Tm_begin.1 11 = .ok (.iconst 0, 1) := by decide +kernel
theorem d_Tm_begin_12 : decode k_Tm_begin.1 12 = .ok (.putfield 22, 3) := by decide +kernel
theorem d_Tm_begin_15 : decode k_Tm_begin.1 15 = .ok (.aload_n 0, 1) := by decide +kernel
theorem d_Tm_begin_16 : decode k_Tm_begin.1 16 = .ok (.ldc2_w 26, 3) := by decide +kernel
theorem d_Tm_begin_19 : decode k_Tm_begin.1 19 = .ok (.putfield 28, 3) := by decide +kernel
theorem d_Tm_begin_22 : decode k_Tm_begin.1 22 = .ok (.return_, 1) := by decide +kernel
theorem d_Tm_forbid_0 : decode k_Tm_forbid.1 0 = .ok (.aload_n 0, 1) := by decide +kernel
theorem d_Tm_forbid_1 : decode k_Tm_forbid.1 1 = .ok (.iconst 1, 1) := by decide +kernel
theorem d_Tm_forbid_2 : decode k_Tm_forbid.1 2 = .ok (.putfield 22, 3) := by decide +kernel
theorem d_Tm_forbid_5 : decode k_Tm_forbid.1 5 = .ok (.return_, 1) := by decide +kernel
theorem d_Tm_add_0 : decode k_Tm_add.1 0 = .ok (.aload_n 0, 1) := by decide +kernel
theorem d_Tm_add_1 : decode k_Tm_add.1 1 = .ok (.getfield 9, 3) := by decide +kernel
theorem d_Tm_add_4 : decode k_Tm_add.1 4 = .ok (.aload_n 0, 1) := by decide +kernel
theorem d_Tm_add_5 : decode k_Tm_add.1 5 = .ok (.getfield 15, 3) := by decide +kernel
theorem d_Tm_add_8 : decode k_Tm_add.1 8 = .ok (.lload_n 1, 1) := by decide +kernel
theorem d_Tm_add_9 : decode k_Tm_add.1 9 = .ok (.lastore, 1) := by decide +kernel
theorem d_Tm_add_10 : decode k_Tm_add.1 10 = .ok (.aload_n 0, 1) := by decide +kernel
theorem d_Tm_add_11 : decode k_Tm_add.1 11 = .ok (.dup, 1) := by decide +kernel
theorem d_Tm_add_12 : decode k_Tm_add.1 12 = .ok (.getfield 15, 3) := by decide +kernel
theorem d_Tm_add_15 : decode k_Tm_add.1 15 = .ok (.iconst 1, 1) := by decide +kernel
theorem d_Tm_add_16 : decode k_Tm_add.1 16 = .ok (.iadd, 1) := by decide +kernel
theorem d_Tm_add_17 : decode k_Tm_add.1 17 = .ok (.putfield 15, 3) := by decide +kernel
theorem d_Tm_add_20 : decode k_Tm_add.1 20 = .ok (.return_, 1) := by decide +kernel
theorem d_Tm_isEmpty_0 : decode k_Tm_isEmpty.1 0 = .ok (.aload_n 0, 1) := by decide +kernel
theorem d_Tm_isEmpty_1 : decode k_Tm_isEmpty.1 1 = .ok (.getfield 15, 3) := by decide +kernel
theorem d_Tm_isEmpty_4 : decode k_Tm_isEmpty.1 4 = .ok (.ifCond .ne 7, 3) := by decide +kernel
theorem d_Tm_isEmpty_7 : decode k_Tm_isEmpty.1 7 = .ok (.iconst 1, 1) := by decide +kernel
theorem d_Tm_isEmpty_8 : decode k_Tm_isEmpty.1 8 = .ok (.goto 4, 3) := by decide +kernel
theorem d_Tm_isEmpty_11 : decode k_Tm_isEmpty.1 11 = .ok (.iconst 0, 1) := by decide +kernel
theorem d_Tm_isEmpty_12 : decode k_Tm_isEmpty.1 12 = .ok (.ireturn, 1) := by decide +kernel
theorem d_Tm_compareOnly_0 : decode k_Tm_compareOnly.1 0 = .ok (.aload_n 0, 1) := by decide +kernel
theorem d_Tm_compareOnly_1 : decode k_Tm_compareOnly.1 1 = .ok (.ldc2_w 26, 3) := by decide +kernel
theorem d_Tm_compareOnly_4 : decode k_Tm_compareOnly.1 4 = .ok (.bipush 8, 2) := by decide +kernel
theorem d_Tm_compareOnly_6 : decode k_Tm_compareOnly.1 6 = .ok (.bipush 8, 2) := by decide +kernel
theorem d_Tm_compareOnly_8 : decode k_Tm_compareOnly.1 8 = .ok (.iload_n 1, 1) := by decide +kernel
theorem d_Tm_compareOnly_9 : decode k_Tm_compareOnly.1 9 = .ok (.isub, 1) := by decide +kernel
theorem d_Tm_compareOnly_10 : decode k_Tm_compareOnly.1 10 = .ok (.imul, 1) := by decide +kernel
theorem d_Tm_compareOnly_11 : decode k_Tm_compareOnly.1 11 = .ok (.lshl, 1) := by decide +kernel
theorem d_Tm_compareOnly_12 : decode k_Tm_compareOnly.1 12 = .ok (.putfield 28, 3) := by decide +kernel
theorem d_Tm_compareOnly_15 : decode k_Tm_compareOnly.1 15 = .ok (.return_, 1) := by decide +kernel
theorem d_Tm_isOf_0 : decode k_Tm_isOf.1 0 = .ok (.aload_n 0, 1) := by decide +kernel
theorem d_Tm_isOf_1 : decode k_Tm_isOf.1 1 = .ok (.getfield 19, 3) := by decide +kernel
theorem d_Tm_isOf_4 : decode k_Tm_isOf.1 4 = .ok (.iload_n 1, 1) := by decide +kernel
theorem d_Tm_isOf_5 : decode k_Tm_isOf.1 5 = .ok (.if_icmp .ne 7, 3) := by decide +kernel
theorem d_Tm_isOf_8 : decode k_Tm_isOf.1 8 = .ok (.iconst 1, 1) := by decide +kernel
theorem d_Tm_isOf_9 : decode k_Tm_isOf.1 9 = .ok (.goto 4, 3) := by decide +kernel
theorem d_Tm_isOf_12 : decode k_Tm_isOf.1 12 = .ok (.iconst 0, 1) := by decide +kernel
theorem d_Tm_isOf_13 : decode k_Tm_isOf.1 13 = .ok (.ireturn, 1) := by decide +kernel
theorem d_Tm_weightIn_0 : decode k_Tm_weightIn.1 0 = .ok (.iconst 0, 1) := by decide +kernel
theorem d_Tm_weightIn_1 : decode k_Tm_weightIn.1 1 = .ok (.istore_n 2, 1) := by decide +kernel
theorem d_Tm_weightIn_2 : decode k_Tm_weightIn.1 2 = .ok (.iconst 0, 1) := by decide +kernel
theorem d_Tm_weightIn_3 : decode k_Tm_weightIn.1 3 = .ok (.istore_n 3, 1) := by decide +kernel
theorem d_Tm_weightIn_4 : decode k_Tm_weightIn.1 4 = .ok (.iload_n 3, 1) := by decide +kernel
theorem d_Tm_weightIn_5 : decode k_Tm_weightIn.1 5 = .ok (.aload_n 0, 1) := by decide +kernel
theorem d_Tm_weightIn_6 : decode k_Tm_weightIn.1 6 = .ok (.getfield 15, 3) := by decide +kernel
theorem d_Tm_weightIn_9 : decode k_Tm_weightIn.1 9 = .ok (.iadd, 1) := by decide +kernel
theorem d_Tm_weightIn_10 : decode k_Tm_weightIn.1 10 = .ok (.aload_n 1, 1) := by decide +kernel
theorem d_Tm_weightIn_11 : decode k_Tm_weightIn.1 11 = .ok (.invokevirtual 32, 3) := by decide +kernel
theorem d_Tm_weightIn_14 : decode k_Tm_weightIn.1 14 = .ok (.if_icmp .gt 30, 3) := by decide +kernel
theorem d_Tm_weightIn_17 : decode k_Tm_weightIn.1 17 = .ok (.iload_n 2, 1) := by decide +kernel
theorem d_Tm_weightIn_18 : decode k_Tm_weightIn.1 18 = .ok (.aload_n 0, 1) := by decide +kernel
theorem d_Tm_weightIn_19 : decode k_Tm_weightIn.1 19 = .ok (.aload_n 1, 1) := by decide +kernel
theorem d_Tm_weightIn_20 : decode k_Tm_weightIn.1 20 = .ok (.iload_n 3, 1) := by decide +kernel
theorem d_Tm_weightIn_21 : decode k_Tm_weightIn.1 21 = .ok (.invokevirtual 37, 3) := by decide +kernel
theorem d_Tm_weightIn_24 : decode k_Tm_weightIn.1 24 = .ok (.ifCond .eq 11, 3) := by decide +kernel
theorem d_Tm_weightIn_27 : decode k_Tm_weightIn.1 27 = .ok (.aload_n 1, 1) := by decide +kernel
theorem d_Tm_weightIn_28 : decode k_Tm_weightIn.1 28 = .ok (.iload_n 3, 1) := by decide +kernel
theorem d_Tm_weightIn_29 : decode k_Tm_weightIn.1 29 = .ok (.invokevirtual 41, 3) := by decide +kernel
theorem d_Tm_weightIn_32 : decode k_Tm_weightIn.1 32 = .ok (.goto 4, 3) := by decide +kernel
theorem d_Tm_weightIn_35 : decode k_Tm_weightIn.1 35 = .ok (.iconst 0, 1) := by decide +kernel
theorem d_Tm_weightIn_36 : decode k_Tm_weightIn.1 36 = .ok (.iadd, 1) := by decide +kernel
theorem d_Tm_weightIn_37 : decode k_Tm_weightIn.1 37 = .ok (.istore_n 2, 1) := by decide +kernel
theorem d_Tm_weightIn_38 : decode k_Tm_weightIn.1 38 = .ok (.iinc 3 1, 3) := by decide +kernel
theorem d_Tm_weightIn_41 : decode k_Tm_weightIn.1 41 = .ok (.goto (-37), 3) := by decide +kernel
theorem d_Tm_weightIn_44 : decode k_Tm_weightIn.1 44 = .ok (.iload_n 2, 1) := by decide +kernel
theorem d_Tm_weightIn_45 : decode k_Tm_weightIn.1 45 = .ok (.ireturn, 1) := by decide +kernel
theorem d_Tm_hits_0 : decode k_Tm_hits.1 0 = .ok (.iconst 0, 1) := by decide +kernel
theorem d_Tm_hits_1 : decode k_Tm_hits.1 1 = .ok (.istore_n 3, 1) := by decide +kernel
theorem d_Tm_hits_2 : decode k_Tm_hits.1 2 = .ok (.iload_n 3, 1) := by decide +kernel
theorem d_Tm_hits_3 : decode k_Tm_hits.1 3 = .ok (.aload_n 0, 1) := by decide +kernel
theorem d_Tm_hits_4 : decode k_Tm_hits.1 4 = .ok (.getfield 15, 3) := by decide +kernel
theorem d_Tm_hits_7 : decode k_Tm_hits.1 7 = .ok (.if_icmp .ge 33, 3) := by decide +kernel
theorem d_Tm_hits_10 : decode k_Tm_hits.1 10 = .ok (.aload_n 1, 1) := by decide +kernel
theorem d_Tm_hits_11 : decode k_Tm_hits.1 11 = .ok (.iload_n 2, 1) := by decide +kernel
theorem d_Tm_hits_12 : decode k_Tm_hits.1 12 = .ok (.iload_n 3, 1) := by decide +kernel
theorem d_Tm_hits_13 : decode k_Tm_hits.1 13 = .ok (.iadd, 1) := by decide +kernel
theorem d_Tm_hits_14 : decode k_Tm_hits.1 14 = .ok (.invokevirtual 45, 3) := by decide +kernel
theorem d_Tm_hits_17 : decode k_Tm_hits.1 17 = .ok (.aload_n 0, 1) := by decide +kernel
theorem d_Tm_hits_18 : decode k_Tm_hits.1 18 = .ok (.getfield 28, 3) := by decide +kernel
theorem d_Tm_hits_21 : decode k_Tm_hits.1 21 = .ok (.land, 1) := by decide +kernel
theorem d_Tm_hits_22 : decode k_Tm_hits.1 22 = .ok (.aload_n 0, 1) := by decide +kernel
theorem d_Tm_hits_23 : decode k_Tm_hits.1 23 = .ok (.getfield 9, 3) := by decide +kernel
theorem d_Tm_hits_26 : decode k_Tm_hits.1 26 = .ok (.iload_n 3, 1) := by decide +kernel
theorem d_Tm_hits_27 : decode k_Tm_hits.1 27 = .ok (.laload, 1) := by decide +kernel
theorem d_Tm_hits_28 : decode k_Tm_hits.1 28 = .ok (.lcmp, 1) := by decide +kernel
theorem d_Tm_hits_29 : decode k_Tm_hits.1 29 = .ok (.ifCond .eq 5, 3) := by decide +kernel
theorem d_Tm_hits_32 : decode k_Tm_hits.1 32 = .ok (.iconst 0, 1) := by decide +kernel
theorem d_Tm_hits_33 : decode k_Tm_hits.1 33 = .ok (.ireturn, 1) := by decide +kernel
theorem d_Tm_hits_34 : decode k_Tm_hits.1 34 = .ok (.iinc 3 1, 3) := by decide +kernel
theorem d_Tm_hits_37 : decode k_Tm_hits.1 37 = .ok (.goto (-35), 3) := by decide +kernel
theorem d_Tm_hits_40 : decode k_Tm_hits.1 40 = .ok (.iconst 1, 1) := by decide +kernel
theorem d_Tm_hits_41 : decode k_Tm_hits.1 41 = .ok (.ireturn, 1) := by decide +kernel
theorem d_Tm_isUnwanted_0 : decode k_Tm_isUnwanted.1 0 = .ok (.aload_n 0, 1) := by decide +kernel
theorem d_Tm_isUnwanted_1 : decode k_Tm_isUnwanted.1 1 = .ok (.getfield 22, 3) := by decide +kernel
theorem d_Tm_isUnwanted_4 : decode k_Tm_isUnwanted.1 4 = .ok (.ireturn, 1) := by decide +kernel
end
section
theorem d_Tr_init_0 : decode k_Tr_init.1 0 = .ok (.aload_n 0, 1) := by decide +kernel
theorem d_Tr_init_1 : decode k_Tr_init.1 1 = .ok (.invokespecial 3, 3) := by decide +kernel
theorem d_Tr_init_4 : decode k_Tr_init.1 4 = .ok (.aload_n 0, 1) := by decide +kernel
theorem d_Tr_init_5 : decode k_Tr_init.1 5 = .ok (.bipush 16, 2) := by decide +kernel
theorem d_Tr_init_7 : decode k_Tr_init.1 7 = .ok (.newarray .int, 2) := by decide +kernel
theorem d_Tr_init_9 : decode k_Tr_init.1 9 = .ok (.putfield 9, 3) := by decide +kernel
theorem d_Tr_init_12 : decode k_Tr_init.1 12 = .ok (.aload_n 0, 1) := by decide +kernel
theorem d_Tr_init_13 : decode k_Tr_init.1 13 = .ok (.bipush 16, 2) := by decide +kernel
theorem d_Tr_init_15 : decode k_Tr_init.1 15 = .ok (.newarray .int, 2) := by decide +kernel
theorem d_Tr_init_17 : decode k_Tr_init.1 17 = .ok (.putfield 15, 3) := by decide +kernel
theorem d_Tr_init_20 : decode k_Tr_init.1 20 = .ok (.aload_n 0, 1) := by decide +kernel
theorem d_Tr_init_21 : decode k_Tr_init.1 21 = .ok (.bipush 16, 2) := by decide +kernel
theorem d_Tr_init_23 : decode k_Tr_init.1 23 = .ok (.bipush 60, 2) := by decide +kernel
theorem d_Tr_init_25 : decode k_Tr_init.1 25 = .ok (.multianewarray 18 2, 4) := by decide +kernel
theorem d_Tr_init_29 : decode k_Tr_init.1 29 = .ok (.putfield 20, 3) := by decide +kernel
theorem d_Tr_init_32 : decode k_Tr_init.1 32 = .ok (.aload_n 0, 1) := by decide +kernel
theorem d_Tr_init_33 : decode k_Tr_init.1 33 = .ok (.bipush 16, 2) := by decide +kernel
theorem d_Tr_init_35 : decode k_Tr_init.1 35 = .ok (.newarray .int, 2) := by decide +kernel
theorem d_Tr_init_37 : decode k_Tr_init.1 37 = .ok (.putfield 23, 3) := by decide +kernel
theorem d_Tr_init_40 : decode k_Tr_init.1 40 = .ok (.aload_n 0, 1) := by decide +kernel
theorem d_Tr_init_41 : decode k_Tr_init.1 41 = .ok (.getfield 9, 3) := by decide +kernel
theorem d_Tr_init_44 : decode k_Tr_init.1 44 = .ok (.iconst 0, 1) := by decide +kernel
theorem d_Tr_init_45 : decode k_Tr_init.1 45 = .ok (.iconst 1, 1) := by decide +kernel
theorem d_Tr_init_46 : decode k_Tr_init.1 46 = .ok (.iastore, 1) := by decide +kernel
theorem d_Tr_init_47 : decode k_Tr_init.1 47 = .ok (.return_, 1) := by decide +kernel
theorem d_Tr_isFile_0 : decode k_Tr_isFile.1 0 = .ok (.iload_n 1, 1) := by decide +kernel
theorem d_Tr_isFile_1 : decode k_Tr_isFile.1 1 = .ok (.invokestatic 26, 3) := by decide +kernel
theorem d_Tr_isFile_4 : decode k_Tr_isFile.1 4 = .ok (.ifCond .eq 17, 3) := by decide +kernel
theorem d_Tr_isFile_7 : decode k_Tr_isFile.1 7 = .ok (.aload_n 0, 1) := by decide +kernel
theorem d_Tr_isFile_8 : decode k_Tr_isFile.1 8 = .ok (.getfield 9, 3) := by decide +kernel
theorem d_Tr_isFile_11 : decode k_Tr_isFile.1 11 = .ok (.iload_n 1, 1) := by decide +kernel
theorem d_Tr_isFile_12 : decode k_Tr_isFile.1 12 = .ok (.iaload, 1) := by decide +kernel
theorem d_Tr_isFile_13 : decode k_Tr_isFile.1 13 = .ok (.iconst 2, 1) := by decide +kernel
theorem d_Tr_isFile_14 : decode k_Tr_isFile.1 14 = .ok (.if_icmp .ne 7, 3) := by decide +kernel
theorem d_Tr_isFile_17 : decode k_Tr_isFile.1 17 = .ok (.iconst 1, 1) := by decide +kernel
theorem d_Tr_isFile_18 : decode k_Tr_isFile.1 18 = .ok (.goto 4, 3) := by decide +kernel
theorem d_Tr_isFile_21 : decode k_Tr_isFile.1 21 = .ok (.iconst 0, 1) := by decide +kernel
theorem d_Tr_isFile_22 : decode k_Tr_isFile.1 22 = .ok (.ireturn, 1) := by decide +kernel
theorem d_Tr_contentOf_0 : decode k_Tr_contentOf.1 0 = .ok (.aload_n 0, 1) := by decide +kernel
theorem d_Tr_contentOf_1 : decode k_Tr_contentOf.1 1 = .ok (.getfield 20, 3) := by decide +kernel
theorem d_Tr_contentOf_4 : decode k_Tr_contentOf.1 4 = .ok (.iload_n 1, 1) := by decide +kernel
theorem d_Tr_contentOf_5 : decode k_Tr_contentOf.1 5 = .ok (.aaload, 1) := by decide +kernel
theorem d_Tr_contentOf_6 : decode k_Tr_contentOf.1 6 = .ok (.areturn, 1) := by decide +kernel
theorem d_Tr_lengthOf_0 : decode k_Tr_lengthOf.1 0 = .ok (.aload_n 0, 1) := by decide +kernel
theorem d_Tr_lengthOf_1 : decode k_Tr_lengthOf.1 1 = .ok (.getfield 23, 3) := by decide +kernel
theorem d_Tr_lengthOf_4 : decode k_Tr_lengthOf.1 4 = .ok (.iload_n 1, 1) := by decide +kernel
theorem d_Tr_lengthOf_5 : decode k_Tr_lengthOf.1 5 = .ok (.iaload, 1) := by decide +kernel
theorem d_Tr_lengthOf_6 : decode k_Tr_lengthOf.1 6 = .ok (.ireturn, 1) := by decide +kernel
theorem d_Tr_isThere_0 : decode k_Tr_isThere.1 0 = .ok (.iload_n 1, 1) := by decide +kernel
theorem d_Tr_isThere_1 : decode k_Tr_isThere.1 1 = .ok (.invokestatic 26, 3) := by decide +kernel
theorem d_Tr_isThere_4 : decode k_Tr_isThere.1 4 = .ok (.ifCond .eq 16, 3) := by decide +kernel
theorem d_Tr_isThere_7 : decode k_Tr_isThere.1 7 = .ok (.aload_n 0, 1) := by decide +kernel
theorem d_Tr_isThere_8 : decode k_Tr_isThere.1 8 = .ok (.getfield 9, 3) := by decide +kernel
theorem d_Tr_isThere_11 : decode k_Tr_isThere.1 11 = .ok (.iload_n 1, 1) := by decide +kernel
theorem d_Tr_isThere_12 : decode k_Tr_isThere.1 12 = .ok (.iaload, 1) := by decide +kernel
theorem d_Tr_isThere_13 : decode k_Tr_isThere.1 13 = .ok (.ifCond .eq 7, 3) := by decide +kernel
theorem d_Tr_isThere_16 : decode k_Tr_isThere.1 16 = .ok (.iconst 1, 1) := by decide +kernel
theorem d_Tr_isThere_17 : decode k_Tr_isThere.1 17 = .ok (.goto 4, 3) := by decide +kernel
theorem d_Tr_isThere_20 : decode k_Tr_isThere.1 20 = .ok (.iconst 0, 1) := by decide +kernel
theorem d_Tr_isThere_21 : decode k_Tr_isThere.1 21 = .ok (.ireturn, 1) := by decide +kernel
theorem d_Tr_isFolder_0 : decode k_Tr_isFolder.1 0 = .ok (.iload_n 1, 1) := by decide +kernel
theorem d_Tr_isFolder_1 : decode k_Tr_isFolder.1 1 = .ok (.invokestatic 26, 3) := by decide +kernel
theorem d_Tr_isFolder_4 : decode k_Tr_isFolder.1 4 = .ok (.ifCond .eq 17, 3) := by decide +kernel
theorem d_Tr_isFolder_7 : decode k_Tr_isFolder.1 7 = .ok (.aload_n 0, 1) := by decide +kernel
theorem d_Tr_isFolder_8 : decode k_Tr_isFolder.1 8 = .ok (.getfield 9, 3) := by decide +kernel
theorem d_Tr_isFolder_11 : decode k_Tr_isFolder.1 11 = .ok (.iload_n 1, 1) := by decide +kernel
theorem d_Tr_isFolder_12 : decode k_Tr_isFolder.1 12 = .ok (.iaload, 1) := by decide +kernel
theorem d_Tr_isFolder_13 : decode k_Tr_isFolder.1 13 = .ok (.iconst 1, 1) := by decide +kernel
theorem d_Tr_isFolder_14 : decode k_Tr_isFolder.1 14 = .ok (.if_icmp .ne 7, 3) := by decide +kernel
theorem d_Tr_isFolder_17 : decode k_Tr_isFolder.1 17 = .ok (.iconst 1, 1) := by decide +kernel
theorem d_Tr_isFolder_18 : decode k_Tr_isFolder.1 18 = .ok (.goto 4, 3) := by decide +kernel
theorem d_Tr_isFolder_21 : decode k_Tr_isFolder.1 21 = .ok (.iconst 0, 1) := by decide +kernel
theorem d_Tr_isFolder_22 : decode k_Tr_isFolder.1 22 = .ok (.ireturn, 1) := by decide +kernel
theorem d_Tr_put_0 : decode k_Tr_put.1 0 = .ok (.aload_n 0, 1) := by decide +kernel
theorem d_Tr_put_1 : decode k_Tr_put.1 1 = .ok (.getfield 9, 3) := by decide +kernel
theorem d_Tr_put_4 : decode k_Tr_put.1 4 = .ok (.iload_n 1, 1) := by decide +kernel
theorem d_Tr_put_5 : decode k_Tr_put.1 5 = .ok (.iload_n 3, 1) := by decide +kernel
theorem d_Tr_put_6 : decode k_Tr_put.1 6 = .ok (.ifCond .eq 7, 3) := by decide +kernel
theorem d_Tr_put_9 : decode k_Tr_put.1 9 = .ok (.iconst 1, 1) := by decide +kernel
theorem d_Tr_put_10 : decode k_Tr_put.1 10 = .ok (.goto 4, 3) := by decide +kernel
theorem d_Tr_put_13 : decode k_Tr_put.1 13 = .ok (.iconst 2, 1) := by decide +kernel
theorem d_Tr_put_14 : decode k_Tr_put.1 14 = .ok (.iastore, 1) := by decide +kernel
theorem d_Tr_put_15 : decode k_Tr_put.1 15 = .ok (.aload_n 0, 1) := by decide +kernel
theorem d_Tr_put_16 : decode k_Tr_put.1 16 = .ok (.getfield 15, 3) := by decide +kernel
theorem d_Tr_put_19 : decode k_Tr_put.1 19 = .ok (.iload_n 1, 1) := by decide +kernel
theorem d_Tr_put_20 : decode k_Tr_put.1 20 = .ok (.iload_n 2, 1) := by decide +kernel
theorem d_Tr_put_21 : decode k_Tr_put.1 21 = .ok (.iastore, 1) := by decide +kernel
theorem d_Tr_put_22 : decode k_Tr_put.1 22 = .ok (.aload_n 0, 1) := by decide +kernel
theorem d_Tr_put_23 : decode k_Tr_put.1 23 = .ok (.getfield 23, 3) := by decide +kernel
theorem d_Tr_put_26 : decode k_Tr_put.1 26 = .ok (.iload_n 1, 1) := by decide +kernel
theorem d_Tr_put_27 : decode k_Tr_put.1 27 = .ok (.iconst 0, 1) := by decide +kernel
theorem d_Tr_put_28 : decode k_Tr_put.1 28 = .ok (.iastore, 1) := by decide +kernel
theorem d_Tr_put_29 : decode k_Tr_put.1 29 = .ok (.return_, 1) := by decide +kernel
theorem d_Tr_append_0 : decode k_Tr_append.1 0 = .ok (.aload_n 0, 1) := by decide +kernel
theorem d_Tr_append_1 : decode k_Tr_append.1 1 = .ok (.getfield 20, 3) := by decide +kernel
theorem d_Tr_append_4 : decode k_Tr_append.1 4 = .ok (.iload_n 1, 1) := by decide +kernel
theorem d_Tr_append_5 : decode k_Tr_append.1 5 = .ok (.aaload, 1) := by decide +kernel
theorem d_Tr_append_6 : decode k_Tr_append.1 6 = .ok (.aload_n 0, 1) := by decide +kernel
theorem d_Tr_append_7 : decode k_Tr_append.1 7 = .ok (.getfield 23, 3) := by decide +kernel
theorem d_Tr_append_10 : decode k_Tr_append.1 10 = .ok (.iload_n 1, 1) := by decide +kernel
theorem d_Tr_append_11 : decode k_Tr_append.1 11 = .ok (.iaload, 1) := by decide +kernel
theorem d_Tr_append_12 : decode k_Tr_append.1 12 = .ok (.iload_n 2, 1) := by decide +kernel
theorem d_Tr_append_13 : decode k_Tr_append.1 13 = .ok (.iastore, 1) := by decide +kernel
theorem d_Tr_append_14 : decode k_Tr_append.1 14 = .ok (.aload_n 0, 1) := by decide +kernel
theorem d_Tr_append_15 : decode k_Tr_append.1 15 = .ok (.getfield 23, 3) := by decide +kernel
theorem d_Tr_append_18 : decode k_Tr_append.1 18 = .ok (.iload_n 1, 1) := by decide +kernel
theorem d_Tr_append_19 : decode k_Tr_append.1 19 = .ok (.dup2, 1) := by decide +kernel
theorem d_Tr_append_20 : decode k_Tr_append.1 20 = .ok (.iaload, 1) := by decide +kernel
theorem d_Tr_append_21 : decode k_Tr_append.1 21 = .ok (.iconst 1, 1) := by decide +kernel
theorem d_Tr_append_22 : decode k_Tr_append.1 22 = .ok (.iadd, 1) := by decide +kernel
theorem d_Tr_append_23 : decode k_Tr_append.1 23 = .ok (.iastore, 1) := by decide +kernel
theorem d_Tr_append_24 : decode k_Tr_append.1 24 = .ok (.return_, 1) := by decide +kernel
theorem d_Tr_shorten_0 : decode k_Tr_shorten.1 0 = .ok (.aload_n 0, 1) := by decide +kernel
theorem d_Tr_shorten_1 : decode k_Tr_shorten.1 1 = .ok (.getfield 23, 3) := by decide +kernel
theorem d_Tr_shorten_4 : decode k_Tr_shorten.1 4 = .ok (.iload_n 1, 1) := by decide +kernel
theorem d_Tr_shorten_5 : decode k_Tr_shorten.1 5 = .ok (.iload_n 2, 1) := by decide +kernel
theorem d_Tr_shorten_6 : decode k_Tr_shorten.1 6 = .ok (.iastore, 1) := by decide +kernel
theorem d_Tr_shorten_7 : decode k_Tr_shorten.1 7 = .ok (.return_, 1) := by decide +kernel
theorem d_Tr_isWithin_0 : decode k_Tr_isWithin.1 0 = .ok (.aload_n 0, 1) := by decide +kernel
theorem d_Tr_isWithin_1 : decode k_Tr_isWithin.1 1 = .ok (.iload_n 1, 1) := by decide +kernel
theorem d_Tr_isWithin_2 : decode k_Tr_isWithin.1 2 = .ok (.invokevirtual 30, 3) := by decide +kernel
theorem d_Tr_isWithin_5 : decode k_Tr_isWithin.1 5 = .ok (.ifCond .ne 5, 3) := by decide +kernel
theorem d_Tr_isWithin_8 : decode k_Tr_isWithin.1 8 = .ok (.iconst 0, 1) := by decide +kernel
theorem d_Tr_isWithin_9 : decode k_Tr_isWithin.1 9 = .ok (.ireturn, 1) := by decide +kernel
theorem d_Tr_isWithin_10 : decode k_Tr_isWithin.1 10 = .ok (.iload_n 1, 1) := by decide +kernel
theorem d_Tr_isWithin_11 : decode k_Tr_isWithin.1 11 = .ok (.istore_n 3, 1) := by decide +kernel
theorem d_Tr_isWithin_12 : decode k_Tr_isWithin.1 12 = .ok (.iconst 0, 1) := by decide +kernel
theorem d_Tr_isWithin_13 : decode k_Tr_isWithin.1 13 = .ok (.istore 4, 2) := by decide +kernel
theorem d_Tr_isWithin_15 : decode k_Tr_isWithin.1 15 = .ok (.iload 4, 2) := by decide +kernel
theorem d_Tr_isWithin_17 : decode k_Tr_isWithin.1 17 = .ok (.bipush 16, 2) := by decide +kernel
theorem d_Tr_isWithin_19 : decode k_Tr_isWithin.1 19 = .ok (.if_icmp .ge 27, 3) := by decide +kernel
theorem d_Tr_isWithin_22 : decode k_Tr_isWithin.1 22 = .ok (.iload_n 3, 1) := by decide +kernel
theorem d_Tr_isWithin_23 : decode k_Tr_isWithin.1 23 = .ok (.ifCond .eq 23, 3) := by decide +kernel
theorem d_Tr_isWithin_26 : decode k_Tr_isWithin.1 26 = .ok (.aload_n 0, 1) := by decide +kernel
theorem d_Tr_isWithin_27 : decode k_Tr_isWithin.1 27 = .ok (.getfield 15, 3) := by decide +kernel
theorem d_Tr_isWithin_30 : decode k_Tr_isWithin.1 30 = .ok (.iload_n 3, 1) := by decide +kernel
theorem d_Tr_isWithin_31 : decode k_Tr_isWithin.1 31 = .ok (.iaload, 1) := by decide +kernel
theorem d_Tr_isWithin_32 : decode k_Tr_isWithin.1 32 = .ok (.istore_n 3, 1) := by decide +kernel
theorem d_Tr_isWithin_33 : decode k_Tr_isWithin.1 33 = .ok (.iload_n 3, 1) := by decide +kernel
theorem d_Tr_isWithin_34 : decode k_Tr_isWithin.1 34 = .ok (.iload_n 2, 1) := by decide +kernel
theorem d_Tr_isWithin_35 : decode k_Tr_isWithin.1 35 = .ok (.if_icmp .ne 5, 3) := by decide +kernel
theorem d_Tr_isWithin_38 : decode k_Tr_isWithin.1 38 = .ok (.iconst 1, 1) := by decide +kernel
theorem d_Tr_isWithin_39 : decode k_Tr_isWithin.1 39 = .ok (.ireturn, 1) := by decide +kernel
theorem d_Tr_isWithin_40 : decode k_Tr_isWithin.1 40 = .ok (.iinc 4 1, 3) := by decide +kernel
theorem d_Tr_isWithin_43 : decode k_Tr_isWithin.1 43 = .ok (.goto (-28), 3) := by decide +kernel
theorem d_Tr_isWithin_46 : decode k_Tr_isWithin.1 46 = .ok (.iconst 0, 1) := by decide +kernel
theorem d_Tr_isWithin_47 : decode k_Tr_isWithin.1 47 = .ok (.ireturn, 1) := by decide +kernel
theorem d_Tr_drop_0 : decode k_Tr_drop.1 0 = .ok (.aload_n 0, 1) := by decide +kernel
theorem d_Tr_drop_1 : decode k_Tr_drop.1 1 = .ok (.getfield 9, 3) := by decide +kernel
theorem d_Tr_drop_4 : decode k_Tr_drop.1 4 = .ok (.iload_n 1, 1) := by decide +kernel
theorem d_Tr_drop_5 : decode k_Tr_drop.1 5 = .ok (.iconst 0, 1) := by decide +kernel
theorem d_Tr_drop_6 : decode k_Tr_drop.1 6 = .ok (.iastore, 1) := by decide +kernel
theorem d_Tr_drop_7 : decode k_Tr_drop.1 7 = .ok (.return_, 1) := by decide +kernel
theorem d_Tr_parentOf_0 : decode k_Tr_parentOf.1 0 = .ok (.aload_n 0, 1) := by decide +kernel
theorem d_Tr_parentOf_1 : decode k_Tr_parentOf.1 1 = .ok (.getfield 15, 3) := by decide +kernel
theorem d_Tr_parentOf_4 : decode k_Tr_parentOf.1 4 = .ok (.iload_n 1, 1) := by decide +kernel
theorem d_Tr_parentOf_5 : decode k_Tr_parentOf.1 5 = .ok (.iaload, 1) := by decide +kernel
theorem d_Tr_parentOf_6 : decode k_Tr_parentOf.1 6 = .ok (.ireturn, 1) := by decide +kernel
theorem d_Tr_hang_0 : decode k_Tr_hang.1 0 = .ok (.aload_n 0, 1) := by decide +kernel
theorem d_Tr_hang_1 : decode k_Tr_hang.1 1 = .ok (.getfield 15, 3) := by decide +kernel
theorem d_Tr_hang_4 : decode k_Tr_hang.1 4 = .ok (.iload_n 1, 1) := by decide +kernel
theorem d_Tr_hang_5 : decode k_Tr_hang.1 5 = .ok (.iload_n 2, 1) := by decide +kernel
theorem d_Tr_hang_6 : decode k_Tr_hang.1 6 = .ok (.iastore, 1) := by decide +kernel
theorem d_Tr_hang_7 : decode k_Tr_hang.1 7 = .ok (.return_, 1) := by decide +kernel
theorem d_Tr_nodesThere_0 : decode k_Tr_nodesThere.1 0 = .ok (.iconst 0, 1) := by decide +kernel
theorem d_Tr_nodesThere_1 : decode k_Tr_nodesThere.1 1 = .ok (.istore_n 1, 1) := by decide +kernel
theorem d_Tr_nodesThere_2 : decode k_Tr_nodesThere.1 2 = .ok (.iconst 0, 1) := by decide +kernel
theorem d_Tr_nodesThere_3 : decode k_Tr_nodesThere.1 3 = .ok (.istore_n 2, 1) := by decide +kernel
theorem d_Tr_nodesThere_4 : decode k_Tr_nodesThere.1 4 = .ok (.iload_n 2, 1) := by decide +kernel
theorem d_Tr_nodesThere_5 : decode k_Tr_nodesThere.1 5 = .ok (.bipush 16, 2) := by decide +kernel
theorem d_Tr_nodesThere_7 : decode k_Tr_nodesThere.1 7 = .ok (.if_icmp .ge 25, 3) := by decide +kernel
theorem d_Tr_nodesThere_10 : decode k_Tr_nodesThere.1 10 = .ok (.iload_n 1, 1) := by decide +kernel
theorem d_Tr_nodesThere_11 : decode k_Tr_nodesThere.1 11 = .ok (.aload_n 0, 1) := by decide +kernel
theorem d_Tr_nodesThere_12 : decode k_Tr_nodesThere.1 12 = .ok (.iload_n 2, 1) := by decide +kernel
theorem d_Tr_nodesThere_13 : decode k_Tr_nodesThere.1 13 = .ok (.invokevirtual 30, 3) := by decide +kernel
theorem d_Tr_nodesThere_16 : decode k_Tr_nodesThere.1 16 = .ok (.ifCond .eq 7, 3) := by decide +kernel
theorem d_Tr_nodesThere_19 : decode k_Tr_nodesThere.1 19 = .ok (.iconst 1, 1) := by decide +kernel
theorem d_Tr_nodesThere_20 : decode k_Tr_nodesThere.1 20 = .ok (.goto 4, 3) := by decide +kernel
theorem d_Tr_nodesThere_23 : decode k_Tr_nodesThere.1 23 = .ok (.iconst 0, 1) := by decide +kernel
theorem d_Tr_nodesThere_24 : decode k_Tr_nodesThere.1 24 = .ok (.iadd, 1) := by decide +kernel
theorem d_Tr_nodesThere_25 : decode k_Tr_nodesThere.1 25 = .ok (.istore_n 1, 1) := by decide +kernel
theorem d_Tr_nodesThere_26 : decode k_Tr_nodesThere.1 26 = .ok (.iinc 2 1, 3) := by decide +kernel
theorem d_Tr_nodesThere_29 : decode k_Tr_nodesThere.1 29 = .ok (.goto (-25), 3) := by decide +kernel
theorem d_Tr_nodesThere_32 : decode k_Tr_nodesThere.1 32 = .ok (.iload_n 1, 1) := by decide +kernel
theorem d_Tr_nodesThere_33 : decode k_Tr_nodesThere.1 33 = .ok (.ireturn, 1) := by decide +kernel
theorem d_Tr_filesThere_0 : decode k_Tr_filesThere.1 0 = .ok (.iconst 0, 1) := by decide +kernel
theorem d_Tr_filesThere_1 : decode k_Tr_filesThere.1 1 = .ok (.istore_n 1, 1) := by decide +kernel
theorem d_Tr_filesThere_2 : decode k_Tr_filesThere.1 2 = .ok (.iconst 0, 1) := by decide +kernel
theorem d_Tr_filesThere_3 : decode k_Tr_filesThere.1 3 = .ok (.istore_n 2, 1) := by decide +kernel
theorem d_Tr_filesThere_4 : decode k_Tr_filesThere.1 4 = .ok (.iload_n 2, 1) := by decide +kernel
theorem d_Tr_filesThere_5 : decode k_Tr_filesThere.1 5 = .ok (.bipush 16, 2) := by decide +kernel
theorem d_Tr_filesThere_7 : decode k_Tr_filesThere.1 7 = .ok (.if_icmp .ge 25, 3) := by decide +kernel
theorem d_Tr_filesThere_10 : decode k_Tr_filesThere.1 10 = .ok (.iload_n 1, 1) := by decide +kernel
theorem d_Tr_filesThere_11 : decode k_Tr_filesThere.1 11 = .ok (.aload_n 0, 1) := by decide +kernel
theorem d_Tr_filesThere_12 : decode k_Tr_filesThere.1 12 = .ok (.iload_n 2, 1) := by decide +kernel
theorem d_Tr_filesThere_13 : decode k_Tr_filesThere.1 13 = .ok (.invokevirtual 33, 3) := by decide +kernel
theorem d_Tr_filesThere_16 : decode k_Tr_filesThere.1 16 = .ok (.ifCond .eq 7, 3) := by decide +kernel
theorem d_Tr_filesThere_19 : decode k_Tr_filesThere.1 19 = .ok (.iconst 1, 1) := by decide +kernel
theorem d_Tr_filesThere_20 : decode k_Tr_filesThere.1 20 = .ok (.goto 4, 3) := by decide +kernel
theorem d_Tr_filesThere_23 : decode k_Tr_filesThere.1 23 = .ok (.iconst 0, 1) := by decide +kernel
theorem d_Tr_filesThere_24 : decode k_Tr_filesThere.1 24 = .ok (.iadd, 1) := by decide +kernel
theorem d_Tr_filesThere_25 : decode k_Tr_filesThere.1 25 = .ok (.istore_n 1, 1) := by decide +kernel
theorem d_Tr_filesThere_26 : decode k_Tr_filesThere.1 26 = .ok (.iinc 2 1, 3) := by decide +kernel
theorem d_Tr_filesThere_29 : decode k_Tr_filesThere.1 29 = .ok (.goto (-25), 3) := by decide +kernel
theorem d_Tr_filesThere_32 : decode k_Tr_filesThere.1 32 = .ok (.iload_n 1, 1) := by decide +kernel
theorem d_Tr_filesThere_33 : decode k_Tr_filesThere.1 33 = .ok (.ireturn, 1) := by decide +kernel
end
section
/-! ===== ROWS FOR CALLS OF PLAIN METHODS; Math.min, Math.max; references answered ===== -/
/-- ends that return -/
def PR (P : Option Value → ShT → DI → DJ → Prop) : PoT := fun r S I J => match r with
  | .inl v => P v S I J
  | .inr _ => False
/-- a value, nothing changes -/
def PP (x : Value) (S : ShT) (I : DI) (J : DJ) : PoT := PR (fun v S' I' J' => v = some x ∧ S' = S ∧ I' = I ∧ J' = J)
/-- no value; the ints change, or ints and longs -/
def PU (S : ShT) (J : DJ) (Q : DI → Prop) : PoT := PR (fun v S' I' J' => v = none ∧ S' = S ∧ J' = J ∧ Q I')
def PW (S : ShT) (Q : DI → DJ → Prop) : PoT := PR (fun v S' I' J' => v = none ∧ S' = S ∧ Q I' J')
/-- an int; the ints change, or ints and longs -/
def PI (S : ShT) (J : DJ) (Q : Int32 → DI → Prop) : PoT := PR (fun v S' I' J' => S' = S ∧ J' = J ∧ ∃ x, v = some (.int x) ∧ Q x I')
def PJ (S : ShT) (Q : Int32 → DI → DJ → Prop) : PoT := PR (fun v S' I' J' => S' = S ∧ ∃ x, v = some (.int x) ∧ Q x I' J')
section Rows
variable {C : CT} {l : Launch} {K K' : KT} {R : RT} {d' : Nat} {Po : PoT} {pc pc' : Nat} {L L' : LT} {st stk : List Value} {S S' : ShT} {I I' : DI} {J J' : DJ} {u : Nat × Nat} {y : MethodName} {as : List Value} {P : Option Value → ShT → DI → DJ → Prop} {x : Value}
theorem v_cV {b ci idx n : Nat} (hd : decode K.1 pc = .ok (.invokevirtual idx, 3)) (hk : CsV K.2.1 idx K' y n) (hSp : Sp C l K' y (d', 0, 0) (.ref b :: as) S I J (PR P)) (hb0 : isO S b ci) (hc : ci < 12) (hcy : kN ci = y.cls) (hn : as.length = n) (hst : as.reverse ++ .ref b :: st = stk) (hw : (st.map fun v => v.category).sum ≤ 8) (hfr : d' + 1 ≤ R.1) (hp : pc + 3 = pc')
    (kk : ∀ (v : Option Value) (S' : ShT) (I' : DI) (J' : DJ), P v S' I' J' → V C l K R Po pc' L (v.toList ++ st) S' I' J' u) : V C l K R Po pc L stk S I J u := by
  intro p e s m args below meth c hI H ls locs hM hL hS h1 h2
  exact v_callV hd hk hSp hb0 hc hcy hn hst hw hfr ⟨h1, h2⟩ hp kk (fun _ _ _ _ _ h => False.elim h) p e s m args below meth c hI H ls locs hM hL hS h1 h2
theorem v_cS {idx n : Nat} (hd : decode K.1 pc = .ok (.invokestatic idx, 3)) (hk : CsS K.2.1 idx K' y n) (hSp : Sp C l K' y (d', 0, 0) as S I J (PR P)) (hn : as.length = n) (hst : as.reverse ++ st = stk) (hw : (st.map fun v => v.category).sum ≤ 8) (hfr : d' + 1 ≤ R.1) (hp : pc + 3 = pc')
    (kk : ∀ (v : Option Value) (S' : ShT) (I' : DI) (J' : DJ), P v S' I' J' → V C l K R Po pc' L (v.toList ++ st) S' I' J' u) : V C l K R Po pc L stk S I J u := by
  intro p e s m args below meth c hI H ls locs hM hL hS h1 h2
  exact v_callS hd hk hSp hn hst hw hfr ⟨h1, h2⟩ hp kk (fun _ _ _ _ _ h => False.elim h) p e s m args below meth c hI H ls locs hM hL hS h1 h2
theorem v_cN {idx n : Nat} (hd : decode K.1 pc = .ok (.invokestatic idx, 3)) (hk : CsN K.2.1 idx K' y n) (hSp : Sp C l K' y (d', 0, 0) as S I J (PR P)) (hn : as.length = n) (hst : as.reverse ++ st = stk) (hw : (st.map fun v => v.category).sum ≤ 8) (hfr : d' + 1 ≤ R.1) (hp : pc + 3 = pc')
    (kk : ∀ (v : Option Value) (S' : ShT) (I' : DI) (J' : DJ), P v S' I' J' → V C l K R Po pc' L (v.toList ++ st) S' I' J' u) : V C l K R Po pc L stk S I J u := by
  intro p e s m args below meth c hI H ls locs hM hL hS h1 h2
  exact v_callN hd hk hSp hn hst hw hfr ⟨h1, h2⟩ hp kk (fun _ _ _ _ _ h => False.elim h) p e s m args below meth c hI H ls locs hM hL hS h1 h2
theorem v_cVp {b ci idx n : Nat} (hd : decode K.1 pc = .ok (.invokevirtual idx, 3)) (hk : CsV K.2.1 idx K' y n) (hSp : Sp C l K' y (d', 0, 0) (.ref b :: as) S I J (PP x S I J)) (hb0 : isO S b ci) (hc : ci < 12) (hcy : kN ci = y.cls) (hn : as.length = n) (hst : as.reverse ++ .ref b :: st = stk) (hw : (st.map fun v => v.category).sum ≤ 8) (hfr : d' + 1 ≤ R.1) (hp : pc + 3 = pc')
    (kk : V C l K R Po pc' L (x :: st) S I J u) : V C l K R Po pc L stk S I J u :=
  v_cV hd hk hSp hb0 hc hcy hn hst hw hfr hp (by rintro _ _ _ _ ⟨rfl, rfl, rfl, rfl⟩; exact kk)
theorem v_cSp {idx n : Nat} (hd : decode K.1 pc = .ok (.invokestatic idx, 3)) (hk : CsS K.2.1 idx K' y n) (hSp : Sp C l K' y (d', 0, 0) as S I J (PP x S I J)) (hn : as.length = n) (hst : as.reverse ++ st = stk) (hw : (st.map fun v => v.category).sum ≤ 8) (hfr : d' + 1 ≤ R.1) (hp : pc + 3 = pc')
    (kk : V C l K R Po pc' L (x :: st) S I J u) : V C l K R Po pc L stk S I J u :=
  v_cS hd hk hSp hn hst hw hfr hp (by rintro _ _ _ _ ⟨rfl, rfl, rfl, rfl⟩; exact kk)
theorem v_cNp {idx n : Nat} (hd : decode K.1 pc = .ok (.invokestatic idx, 3)) (hk : CsN K.2.1 idx K' y n) (hSp : Sp C l K' y (d', 0, 0) as S I J (PP x S I J)) (hn : as.length = n) (hst : as.reverse ++ st = stk) (hw : (st.map fun v => v.category).sum ≤ 8) (hfr : d' + 1 ≤ R.1) (hp : pc + 3 = pc')
    (kk : V C l K R Po pc' L (x :: st) S I J u) : V C l K R Po pc L stk S I J u :=
  v_cN hd hk hSp hn hst hw hfr hp (by rintro _ _ _ _ ⟨rfl, rfl, rfl, rfl⟩; exact kk)
theorem v_cVu {b ci idx n : Nat} {Q : DI → Prop} (hd : decode K.1 pc = .ok (.invokevirtual idx, 3)) (hk : CsV K.2.1 idx K' y n) (hSp : Sp C l K' y (d', 0, 0) (.ref b :: as) S I J (PU S J Q)) (hb0 : isO S b ci) (hc : ci < 12) (hcy : kN ci = y.cls) (hn : as.length = n) (hst : as.reverse ++ .ref b :: st = stk) (hw : (st.map fun v => v.category).sum ≤ 8) (hfr : d' + 1 ≤ R.1) (hp : pc + 3 = pc')
    (kk : ∀ I', Q I' → V C l K R Po pc' L st S I' J u) : V C l K R Po pc L stk S I J u :=
  v_cV hd hk hSp hb0 hc hcy hn hst hw hfr hp (by rintro _ _ I' _ ⟨rfl, rfl, rfl, h⟩; exact kk I' h)
theorem v_cVw {b ci idx n : Nat} {Q : DI → DJ → Prop} (hd : decode K.1 pc = .ok (.invokevirtual idx, 3)) (hk : CsV K.2.1 idx K' y n) (hSp : Sp C l K' y (d', 0, 0) (.ref b :: as) S I J (PW S Q)) (hb0 : isO S b ci) (hc : ci < 12) (hcy : kN ci = y.cls) (hn : as.length = n) (hst : as.reverse ++ .ref b :: st = stk) (hw : (st.map fun v => v.category).sum ≤ 8) (hfr : d' + 1 ≤ R.1) (hp : pc + 3 = pc')
    (kk : ∀ I' J', Q I' J' → V C l K R Po pc' L st S I' J' u) : V C l K R Po pc L stk S I J u :=
  v_cV hd hk hSp hb0 hc hcy hn hst hw hfr hp (by rintro _ _ I' J' ⟨rfl, rfl, h⟩; exact kk I' J' h)
theorem v_cVi {b ci idx n : Nat} {Q : Int32 → DI → Prop} (hd : decode K.1 pc = .ok (.invokevirtual idx, 3)) (hk : CsV K.2.1 idx K' y n) (hSp : Sp C l K' y (d', 0, 0) (.ref b :: as) S I J (PI S J Q)) (hb0 : isO S b ci) (hc : ci < 12) (hcy : kN ci = y.cls) (hn : as.length = n) (hst : as.reverse ++ .ref b :: st = stk) (hw : (st.map fun v => v.category).sum ≤ 8) (hfr : d' + 1 ≤ R.1) (hp : pc + 3 = pc')
    (kk : ∀ x I', Q x I' → V C l K R Po pc' L (.int x :: st) S I' J u) : V C l K R Po pc L stk S I J u :=
  v_cV hd hk hSp hb0 hc hcy hn hst hw hfr hp (by rintro _ _ I' J' ⟨rfl, rfl, x, rfl, h⟩; exact kk x I' h)
theorem v_cVj {b ci idx n : Nat} {Q : Int32 → DI → DJ → Prop} (hd : decode K.1 pc = .ok (.invokevirtual idx, 3)) (hk : CsV K.2.1 idx K' y n) (hSp : Sp C l K' y (d', 0, 0) (.ref b :: as) S I J (PJ S Q)) (hb0 : isO S b ci) (hc : ci < 12) (hcy : kN ci = y.cls) (hn : as.length = n) (hst : as.reverse ++ .ref b :: st = stk) (hw : (st.map fun v => v.category).sum ≤ 8) (hfr : d' + 1 ≤ R.1) (hp : pc + 3 = pc')
    (kk : ∀ x I' J', Q x I' J' → V C l K R Po pc' L (.int x :: st) S I' J' u) : V C l K R Po pc L stk S I J u :=
  v_cV hd hk hSp hb0 hc hcy hn hst hw hfr hp (by rintro _ _ I' J' ⟨rfl, x, rfl, h⟩; exact kk x I' J' h)
theorem v_aret {r : Nat} (hd : decode K.1 pc = .ok (.areturn, 1)) (ht : (∃ n, K.2.2.2.2.2 = some (.object n)) ∨ ∃ t, K.2.2.2.2.2 = some (.array t)) (hp : Po (.inl (some (.ref r))) S I J) : V C l K R Po pc L [.ref r] S I J u :=
  v_end hp (fun p e s m args below meth c hI H ls locs _ _ Qc hq hf => by
    have hlk : meth.locks = false := hI.2.2.2.2.2.2.1
    rcases ht with ⟨n, ht⟩ | ⟨n, ht⟩
    · exact W.aret hI.2.1 hI.2.2.1 (hI.2.2.2.1.trans ht) (Or.inl ⟨_, rfl⟩) (Or.inr ⟨_, rfl⟩) hq hf hd
    · exact W.aret hI.2.1 hI.2.2.1 (hI.2.2.2.1.trans ht) (Or.inr ⟨_, rfl⟩) (Or.inr ⟨_, rfl⟩) hq hf hd)
theorem v_max {idx : Nat} {x y : Int32} (hd : decode K.1 pc = .ok (.invokestatic idx, 3)) (hw : Wd (.methodLink K.2.1 idx y_Mt_max)) (hw2 : Wd (.static y_Mt_max)) (hR : 1 ≤ R.1) (hst : (st.map fun v => v.category).sum ≤ 8) (hp : pc + 3 = pc') (kk : V C l K R Po pc' L (.int (if x < y then y else x) :: st) S I J u) : V C l K R Po pc L (.int y :: .int x :: st) S I J u := by
  intro p e s m args below meth c hI H ls locs hM hL hS h1 h2
  subst hp
  obtain ⟨hC, hx, hb, hr, hml, hown, hlk, hh, hG, hM0, hnm⟩ := id hI
  have hst2 : ((st.map (cv C)).map fun v => v.category).sum ≤ 8 := by
    have : ((st.map (cv C)).map fun v => v.category) = st.map fun v => v.category := by
      rw [List.map_map]
      congr 1
      funext v
      exact cv_cat C v
    rw [this]
    exact hst
  exact va_mmax hx hb (hml.trans hL.1.symm) hown (hw.at hC hG.1 args) (hw2.at hC hG.1 args) (wi_Mt.at hC hG.1 args) (wc_Mt_max.at hC hG.1 args) hR (by show _ + 13 ≤ 36 * R.1; omega) h1 h2 hd (kk p e s m args below meth c hI H ls locs hM hL hS h1 h2)
theorem v_min {idx : Nat} {x y : Int32} (hd : decode K.1 pc = .ok (.invokestatic idx, 3)) (hw : Wd (.methodLink K.2.1 idx y_Mt_min)) (hw2 : Wd (.static y_Mt_min)) (hR : 1 ≤ R.1) (hst : (st.map fun v => v.category).sum ≤ 8) (hp : pc + 3 = pc') (kk : V C l K R Po pc' L (.int (if y < x then y else x) :: st) S I J u) : V C l K R Po pc L (.int y :: .int x :: st) S I J u := by
  intro p e s m args below meth c hI H ls locs hM hL hS h1 h2
  subst hp
  obtain ⟨hC, hx, hb, hr, hml, hown, hlk, hh, hG, hM0, hnm⟩ := id hI
  have hst2 : ((st.map (cv C)).map fun v => v.category).sum ≤ 8 := by
    have : ((st.map (cv C)).map fun v => v.category) = st.map fun v => v.category := by
      rw [List.map_map]
      congr 1
      funext v
      exact cv_cat C v
    rw [this]
    exact hst
  exact va_mmin hx hb (hml.trans hL.1.symm) hown (hw.at hC hG.1 args) (hw2.at hC hG.1 args) (wi_Mt.at hC hG.1 args) (wc_Mt_min.at hC hG.1 args) hR (by show _ + 13 ≤ 36 * R.1; omega) h1 h2 hd (kk p e s m args below meth c hI H ls locs hM hL hS h1 h2)
end Rows
end
section
/-! ===== THE SHAPE behind the constructors: which cell is what ===== -/
def kdL : List (Nat × Nat) := [(7, 0), (6, 0), (32, 16), (32, 16), (37, 16), (32, 60), (32, 60), (32, 60), (32, 60), (32, 60), (32, 60), (32, 60), (32, 60), (32, 60), (32, 60), (32, 60), (32, 60), (32, 60), (32, 60), (32, 60), (32, 60), (32, 16), (3, 0), (32, 8), (32, 8), (1, 0), (35, 16), (33, 16), (0, 0), (34, 30), (32, 30), (0, 0), (34, 30), (32, 30), (0, 0), (34, 30), (32, 30), (0, 0), (34, 30), (32, 30), (0, 0), (34, 30), (32, 30), (0, 0), (34, 30), (32, 30), (0, 0), (34, 30), (32, 30), (0, 0), (34, 30), (32, 30), (0, 0), (34, 30), (32, 30), (0, 0), (34, 30), (32, 30), (0, 0), (34, 30), (32, 30), (0, 0), (34, 30), (32, 30), (0, 0), (34, 30), (32, 30), (0, 0), (34, 30), (32, 30), (0, 0), (34, 30), (32, 30), (0, 0), (34, 30), (32, 30), (2, 0), (32, 40), (36, 21), (5, 0), (34, 4), (5, 0), (34, 4), (5, 0), (34, 4), (5, 0), (34, 4), (5, 0), (34, 4), (5, 0), (34, 4), (5, 0), (34, 4), (5, 0), (34, 4), (5, 0), (34, 4), (5, 0), (34, 4), (5, 0), (34, 4), (5, 0), (34, 4), (5, 0), (34, 4), (5, 0), (34, 4), (5, 0), (34, 4), (5, 0), (34, 4), (5, 0), (34, 4), (5, 0), (34, 4), (5, 0), (34, 4), (5, 0), (34, 4), (5, 0), (34, 4), (4, 0), (32, 16), (32, 16), (8, 0), (33, 16), (33, 16), (32, 16), (32, 960), (32, 16), (33, 16), (32, 8), (32, 8), (33, 16), (32, 16), (34, 480), (32, 480), (32, 480), (32, 40), (32, 40), (33, 40), (32, 40), (32, 40), (32, 40), (34, 60), (32, 60), (32, 16), (32, 16), (34, 1)]
def rfL : List (List (Option Nat)) := [[some 1, some 22, some 25, some 76, some 121], [some 2, some 3, some 4, some 21], [], [], [some 5, some 6, some 7, some 8, some 9, some 10, some 11, some 12, some 13, some 14, some 15, some 16, some 17, some 18, some 19, some 20], [], [], [], [], [], [], [], [], [], [], [], [], [], [], [], [], [], [some 23, some 24], [], [], [some 26, some 27], [some 28, some 31, some 34, some 37, some 40, some 43, some 46, some 49, some 52, some 55, some 58, some 61, some 64, some 67, some 70, some 73], [], [some 29, some 30], [], [], [some 32, some 33], [], [], [some 35, some 36], [], [], [some 38, some 39], [], [], [some 41, some 42], [], [], [some 44, some 45], [], [], [some 47, some 48], [], [], [some 50, some 51], [], [], [some 53, some 54], [], [], [some 56, some 57], [], [], [some 59, some 60], [], [], [some 62, some 63], [], [], [some 65, some 66], [], [], [some 68, some 69], [], [], [some 71, some 72], [], [], [some 74, some 75], [], [], [some 77, none, some 78], [], [some 79, some 81, some 83, some 85, some 87, some 89, some 91, some 93, some 95, some 97, some 99, some 101, some 103, some 105, some 107, some 109, some 111, some 113, some 115, some 117, some 119], [some 80], [], [some 82], [], [some 84], [], [some 86], [], [some 88], [], [some 90], [], [some 92], [], [some 94], [], [some 96], [], [some 98], [], [some 100], [], [some 102], [], [some 104], [], [some 106], [], [some 108], [], [some 110], [], [some 112], [], [some 114], [], [some 116], [], [some 118], [], [some 120], [], [some 122, some 123], [], [], [none, some 125, some 126, some 127, some 128, some 129, some 130, some 131, some 132, none, none, none, some 133, some 134, some 135, some 136, some 137, some 138, none, some 139, some 140, some 141, some 142, some 143, none, some 144, some 145, none, none, none, none, some 146, some 147, none], [], [], [], [], [], [], [], [], [], [], [], [], [], [], [], [], [], [], [], [], [], [], [], []]
def kd0 (a : Nat) : Nat × Nat := kdL.getD a (0, 0)
def rf0 (a j : Nat) : Option Nat := (rfL.getD a []).getD j none
def SHP (S : ShT) : Prop := 149 ≤ S.1 ∧ ∀ a, a < 149 → S.2.1 a = kd0 a ∧ ∀ j, S.2.2 a j = rf0 a j
theorem SHP.o {S : ShT} (h : SHP S) {a ci : Nat} (ha : a < 149) (hk : (kd0 a).1 = ci) : isO S a ci := ⟨Nat.lt_of_lt_of_le ha h.1, by rw [(h.2 a ha).1]; exact hk⟩
theorem SHP.a {S : ShT} (h : SHP S) {a t n : Nat} (ha : a < 149) (hk : kd0 a = (t, n)) : isA S a t n := ⟨Nat.lt_of_lt_of_le ha h.1, by rw [(h.2 a ha).1]; exact hk⟩
theorem SHP.r {S : ShT} (h : SHP S) {a j r : Nat} (ha : a < 149) (hr : rf0 a j = some r) : S.2.2 a j = some r := by rw [(h.2 a ha).2]; exact hr
theorem kEn : ∀ i, i < 16 → kd0 (28 + 3 * i) = (0, 0) ∧ kd0 (29 + 3 * i) = (34, 30) ∧ kd0 (30 + 3 * i) = (32, 30) ∧ rf0 26 i = some (28 + 3 * i) ∧ rf0 (28 + 3 * i) 0 = some (29 + 3 * i) ∧ rf0 (28 + 3 * i) 1 = some (30 + 3 * i) := by decide +kernel
theorem kTm : ∀ i, i < 21 → kd0 (79 + 2 * i) = (5, 0) ∧ kd0 (80 + 2 * i) = (34, 4) ∧ rf0 78 i = some (79 + 2 * i) ∧ rf0 (79 + 2 * i) 0 = some (80 + 2 * i) := by decide +kernel
theorem kCo : ∀ i, i < 16 → kd0 (5 + i) = (32, 60) ∧ rf0 4 i = some (5 + i) := by decide +kernel
section
variable {S : ShT} {i : Nat}
theorem SHP.en (h : SHP S) (hi : i < 16) : isO S (28 + 3 * i) 0 := h.o (by omega) (by rw [(kEn i hi).1])
theorem SHP.enS (h : SHP S) (hi : i < 16) : isA S (29 + 3 * i) 34 30 := h.a (by omega) (kEn i hi).2.1
theorem SHP.enW (h : SHP S) (hi : i < 16) : isA S (30 + 3 * i) 32 30 := h.a (by omega) (kEn i hi).2.2.1
theorem SHP.enR (h : SHP S) (hi : i < 16) : S.2.2 26 i = some (28 + 3 * i) := h.r (by omega) (kEn i hi).2.2.2.1
theorem SHP.en0 (h : SHP S) (hi : i < 16) : S.2.2 (28 + 3 * i) 0 = some (29 + 3 * i) := h.r (by omega) (kEn i hi).2.2.2.2.1
theorem SHP.en1 (h : SHP S) (hi : i < 16) : S.2.2 (28 + 3 * i) 1 = some (30 + 3 * i) := h.r (by omega) (kEn i hi).2.2.2.2.2
theorem SHP.tm (h : SHP S) (hi : i < 21) : isO S (79 + 2 * i) 5 := h.o (by omega) (by rw [(kTm i hi).1])
theorem SHP.tmS (h : SHP S) (hi : i < 21) : isA S (80 + 2 * i) 34 4 := h.a (by omega) (kTm i hi).2.1
theorem SHP.tmR (h : SHP S) (hi : i < 21) : S.2.2 78 i = some (79 + 2 * i) := h.r (by omega) (kTm i hi).2.2.1
theorem SHP.tm0 (h : SHP S) (hi : i < 21) : S.2.2 (79 + 2 * i) 0 = some (80 + 2 * i) := h.r (by omega) (kTm i hi).2.2.2
theorem SHP.co (h : SHP S) (hi : i < 16) : isA S (5 + i) 32 60 := h.a (by omega) (kCo i hi).1
theorem SHP.coR (h : SHP S) (hi : i < 16) : S.2.2 4 i = some (5 + i) := h.r (by omega) (kCo i hi).2
end
def bI (p : Bool) : Int32 := if p then 1 else 0
theorem bI01 (p : Bool) : bI p = 0 ∨ bI p = 1 := by cases p <;> simp [bI]
end
section
def isNd (x : Int32) : Bool := !decide (x < 0) && !decide (16 ≤ x)
set_option maxHeartbeats 4000000 in
set_option maxRecDepth 100000 in
theorem c_Fi_isNode {C : CT} {l : Launch} {S : ShT} {I : DI} {J : DJ} {d : Nat} (hC : OKC C l) (x : Int32) (hd : 0 ≤ d) : Sp C l k_Fi_isNode y_Fi_isNode (d, 0, 0) [.int x] S I J (PP (.int (bI (isNd x))) S I J) := by
  refine Sp.of hC cd_Fi_isNode (Nat.le_of_ble_eq_true rfl) ?_
  show V C l k_Fi_isNode (d, 0, 0) _ 0 [(0, .int x)] [] S I J (0, 0)
  refine v_iload_n 0 d_Fi_isNode_0 rfl rfl rfl ?_
  refine v_if_lt (tgt := 14) d_Fi_isNode_1 (by decide) rfl (fun c1 => ?_) (fun c1 => ?_)
  · refine v_iconst (v := 0) d_Fi_isNode_14 (by decide) rfl ?_
    refine v_zret d_Fi_isNode_15 rfl (Or.inl rfl) ?_
    exact ⟨by simp [bI, isNd, *], rfl, rfl, rfl⟩
  · refine v_iload_n 0 d_Fi_isNode_4 rfl rfl rfl ?_
    refine v_bipush (v := 16) d_Fi_isNode_5 (by decide) rfl ?_
    refine v_icmp_ge (tgt := 14) d_Fi_isNode_7 (by decide) rfl (fun c2 => ?_) (fun c2 => ?_)
    · refine v_iconst (v := 0) d_Fi_isNode_14 (by decide) rfl ?_
      refine v_zret d_Fi_isNode_15 rfl (Or.inl rfl) ?_
      exact ⟨by simp [bI, isNd, *], rfl, rfl, rfl⟩
    · refine v_iconst (v := 1) d_Fi_isNode_10 (by decide) rfl ?_
      refine v_goto (tgt := 15) d_Fi_isNode_11 (by decide) ?_
      refine v_zret d_Fi_isNode_15 rfl (Or.inr rfl) ?_
      exact ⟨by simp [bI, isNd, *], rfl, rfl, rfl⟩
def isNb (x : Int32) : Bool := !decide (x < 1) && !decide (16 ≤ x)
set_option maxHeartbeats 4000000 in
set_option maxRecDepth 100000 in
theorem c_Fi_isNodeBelowRoot {C : CT} {l : Launch} {S : ShT} {I : DI} {J : DJ} {d : Nat} (hC : OKC C l) (x : Int32) (hd : 0 ≤ d) : Sp C l k_Fi_isNodeBelowRoot y_Fi_isNodeBelowRoot (d, 0, 0) [.int x] S I J (PP (.int (bI (isNb x))) S I J) := by
  refine Sp.of hC cd_Fi_isNodeBelowRoot (Nat.le_of_ble_eq_true rfl) ?_
  show V C l k_Fi_isNodeBelowRoot (d, 0, 0) _ 0 [(0, .int x)] [] S I J (0, 0)
  refine v_iload_n 0 d_Fi_isNodeBelowRoot_0 rfl rfl rfl ?_
  refine v_iconst (v := 1) d_Fi_isNodeBelowRoot_1 (by decide) rfl ?_
  refine v_icmp_lt (tgt := 15) d_Fi_isNodeBelowRoot_2 (by decide) rfl (fun c1 => ?_) (fun c1 => ?_)
  · refine v_iconst (v := 0) d_Fi_isNodeBelowRoot_15 (by decide) rfl ?_
    refine v_zret d_Fi_isNodeBelowRoot_16 rfl (Or.inl rfl) ?_
    exact ⟨by simp [bI, isNb, *], rfl, rfl, rfl⟩
  · refine v_iload_n 0 d_Fi_isNodeBelowRoot_5 rfl rfl rfl ?_
    refine v_bipush (v := 16) d_Fi_isNodeBelowRoot_6 (by decide) rfl ?_
    refine v_icmp_ge (tgt := 15) d_Fi_isNodeBelowRoot_8 (by decide) rfl (fun c2 => ?_) (fun c2 => ?_)
    · refine v_iconst (v := 0) d_Fi_isNodeBelowRoot_15 (by decide) rfl ?_
      refine v_zret d_Fi_isNodeBelowRoot_16 rfl (Or.inl rfl) ?_
      exact ⟨by simp [bI, isNb, *], rfl, rfl, rfl⟩
    · refine v_iconst (v := 1) d_Fi_isNodeBelowRoot_11 (by decide) rfl ?_
      refine v_goto (tgt := 16) d_Fi_isNodeBelowRoot_12 (by decide) ?_
      refine v_zret d_Fi_isNodeBelowRoot_16 rfl (Or.inr rfl) ?_
      exact ⟨by simp [bI, isNb, *], rfl, rfl, rfl⟩
def isCd (x : Int32) : Bool := !decide (x < 32) && !decide (126 < x)
set_option maxHeartbeats 4000000 in
set_option maxRecDepth 100000 in
theorem c_Fi_isCode {C : CT} {l : Launch} {S : ShT} {I : DI} {J : DJ} {d : Nat} (hC : OKC C l) (x : Int32) (hd : 0 ≤ d) : Sp C l k_Fi_isCode y_Fi_isCode (d, 0, 0) [.int x] S I J (PP (.int (bI (isCd x))) S I J) := by
  refine Sp.of hC cd_Fi_isCode (Nat.le_of_ble_eq_true rfl) ?_
  show V C l k_Fi_isCode (d, 0, 0) _ 0 [(0, .int x)] [] S I J (0, 0)
  refine v_iload_n 0 d_Fi_isCode_0 rfl rfl rfl ?_
  refine v_bipush (v := 32) d_Fi_isCode_1 (by decide) rfl ?_
  refine v_icmp_lt (tgt := 16) d_Fi_isCode_3 (by decide) rfl (fun c1 => ?_) (fun c1 => ?_)
  · refine v_iconst (v := 0) d_Fi_isCode_16 (by decide) rfl ?_
    refine v_zret d_Fi_isCode_17 rfl (Or.inl rfl) ?_
    exact ⟨by simp [bI, isCd, *], rfl, rfl, rfl⟩
  · refine v_iload_n 0 d_Fi_isCode_6 rfl rfl rfl ?_
    refine v_bipush (v := 126) d_Fi_isCode_7 (by decide) rfl ?_
    refine v_icmp_gt (tgt := 16) d_Fi_isCode_9 (by decide) rfl (fun c2 => ?_) (fun c2 => ?_)
    · refine v_iconst (v := 0) d_Fi_isCode_16 (by decide) rfl ?_
      refine v_zret d_Fi_isCode_17 rfl (Or.inl rfl) ?_
      exact ⟨by simp [bI, isCd, *], rfl, rfl, rfl⟩
    · refine v_iconst (v := 1) d_Fi_isCode_12 (by decide) rfl ?_
      refine v_goto (tgt := 17) d_Fi_isCode_13 (by decide) ?_
      refine v_zret d_Fi_isCode_17 rfl (Or.inr rfl) ?_
      exact ⟨by simp [bI, isCd, *], rfl, rfl, rfl⟩
def isLt (x : Int32) : Bool := (!decide (x < 97) && !decide (122 < x)) || (!decide (x < 65) && !decide (90 < x))
set_option maxHeartbeats 4000000 in
set_option maxRecDepth 100000 in
theorem c_Fi_isLetter {C : CT} {l : Launch} {S : ShT} {I : DI} {J : DJ} {d : Nat} (hC : OKC C l) (x : Int32) (hd : 0 ≤ d) : Sp C l k_Fi_isLetter y_Fi_isLetter (d, 0, 0) [.int x] S I J (PP (.int (bI (isLt x))) S I J) := by
  refine Sp.of hC cd_Fi_isLetter (Nat.le_of_ble_eq_true rfl) ?_
  show V C l k_Fi_isLetter (d, 0, 0) _ 0 [(0, .int x)] [] S I J (0, 0)
  refine v_iload_n 0 d_Fi_isLetter_0 rfl rfl rfl ?_
  refine v_bipush (v := 97) d_Fi_isLetter_1 (by decide) rfl ?_
  refine v_icmp_lt (tgt := 12) d_Fi_isLetter_3 (by decide) rfl (fun c1 => ?_) (fun c1 => ?_)
  · refine v_iload_n 0 d_Fi_isLetter_12 rfl rfl rfl ?_
    refine v_bipush (v := 65) d_Fi_isLetter_13 (by decide) rfl ?_
    refine v_icmp_lt (tgt := 28) d_Fi_isLetter_15 (by decide) rfl (fun c2 => ?_) (fun c2 => ?_)
    · refine v_iconst (v := 0) d_Fi_isLetter_28 (by decide) rfl ?_
      refine v_zret d_Fi_isLetter_29 rfl (Or.inl rfl) ?_
      exact ⟨by simp [bI, isLt, *], rfl, rfl, rfl⟩
    · refine v_iload_n 0 d_Fi_isLetter_18 rfl rfl rfl ?_
      refine v_bipush (v := 90) d_Fi_isLetter_19 (by decide) rfl ?_
      refine v_icmp_gt (tgt := 28) d_Fi_isLetter_21 (by decide) rfl (fun c3 => ?_) (fun c3 => ?_)
      · refine v_iconst (v := 0) d_Fi_isLetter_28 (by decide) rfl ?_
        refine v_zret d_Fi_isLetter_29 rfl (Or.inl rfl) ?_
        exact ⟨by simp [bI, isLt, *], rfl, rfl, rfl⟩
      · refine v_iconst (v := 1) d_Fi_isLetter_24 (by decide) rfl ?_
        refine v_goto (tgt := 29) d_Fi_isLetter_25 (by decide) ?_
        refine v_zret d_Fi_isLetter_29 rfl (Or.inr rfl) ?_
        exact ⟨by simp [bI, isLt, *], rfl, rfl, rfl⟩
  · refine v_iload_n 0 d_Fi_isLetter_6 rfl rfl rfl ?_
    refine v_bipush (v := 122) d_Fi_isLetter_7 (by decide) rfl ?_
    refine v_icmp_le (tgt := 24) d_Fi_isLetter_9 (by decide) rfl (fun c4 => ?_) (fun c4 => ?_)
    · refine v_iconst (v := 1) d_Fi_isLetter_24 (by decide) rfl ?_
      refine v_goto (tgt := 29) d_Fi_isLetter_25 (by decide) ?_
      refine v_zret d_Fi_isLetter_29 rfl (Or.inr rfl) ?_
      exact ⟨by simp [bI, isLt, *], rfl, rfl, rfl⟩
    · refine v_iload_n 0 d_Fi_isLetter_12 rfl rfl rfl ?_
      refine v_bipush (v := 65) d_Fi_isLetter_13 (by decide) rfl ?_
      refine v_icmp_lt (tgt := 28) d_Fi_isLetter_15 (by decide) rfl (fun c5 => ?_) (fun c5 => ?_)
      · refine v_iconst (v := 0) d_Fi_isLetter_28 (by decide) rfl ?_
        refine v_zret d_Fi_isLetter_29 rfl (Or.inl rfl) ?_
        exact ⟨by simp [bI, isLt, *], rfl, rfl, rfl⟩
      · refine v_iload_n 0 d_Fi_isLetter_18 rfl rfl rfl ?_
        refine v_bipush (v := 90) d_Fi_isLetter_19 (by decide) rfl ?_
        refine v_icmp_gt (tgt := 28) d_Fi_isLetter_21 (by decide) rfl (fun c6 => ?_) (fun c6 => ?_)
        · refine v_iconst (v := 0) d_Fi_isLetter_28 (by decide) rfl ?_
          refine v_zret d_Fi_isLetter_29 rfl (Or.inl rfl) ?_
          exact ⟨by simp [bI, isLt, *], rfl, rfl, rfl⟩
        · refine v_iconst (v := 1) d_Fi_isLetter_24 (by decide) rfl ?_
          refine v_goto (tgt := 29) d_Fi_isLetter_25 (by decide) ?_
          refine v_zret d_Fi_isLetter_29 rfl (Or.inr rfl) ?_
          exact ⟨by simp [bI, isLt, *], rfl, rfl, rfl⟩
def byOf (x : Int64) (p : Int32) : Int32 := (x.toUInt64 >>> ((8 * p).toInt64.toUInt64 &&& Int64.toUInt64 63)).toInt64.toInt32 &&& 255
set_option maxHeartbeats 4000000 in
set_option maxRecDepth 100000 in
theorem c_Fi_byteOf {C : CT} {l : Launch} {S : ShT} {I : DI} {J : DJ} {d : Nat} (hC : OKC C l) (x : Int64) (p : Int32) (hd : 0 ≤ d) : Sp C l k_Fi_byteOf y_Fi_byteOf (d, 0, 0) [.long x, .int p] S I J (PP (.int (byOf x p)) S I J) := by
  refine Sp.of hC cd_Fi_byteOf (Nat.le_of_ble_eq_true rfl) ?_
  show V C l k_Fi_byteOf (d, 0, 0) _ 0 [(0, .long x), (2, .int p)] [] S I J (0, 0)
  refine v_lload_n 0 d_Fi_byteOf_0 rfl rfl rfl ?_
  refine v_bipush (v := 8) d_Fi_byteOf_1 (by decide) rfl ?_
  refine v_iload_n 1 d_Fi_byteOf_3 rfl rfl rfl ?_
  refine v_imul d_Fi_byteOf_4 rfl ?_
  refine v_nmi (fun z1 ez1 => ?_)
  refine v_lushr d_Fi_byteOf_5 rfl rfl ?_
  refine v_nml (fun z2 ez2 => ?_)
  refine v_l2i d_Fi_byteOf_6 rfl rfl ?_
  refine v_nmi (fun z3 ez3 => ?_)
  refine v_sipush (v := 255) d_Fi_byteOf_7 (by decide) rfl ?_
  refine v_iand d_Fi_byteOf_10 rfl ?_
  refine v_nmi (fun z4 ez4 => ?_)
  refine v_iret d_Fi_byteOf_11 rfl ?_
  exact ⟨by subst_vars; rfl, rfl, rfl, rfl⟩
def wiLe (x : Int64) (p c : Int32) : Int64 := x ||| ((c ||| 32).toInt64 <<< ((8 * (7 - p)).toInt64 &&& 63))
set_option maxHeartbeats 4000000 in
set_option maxRecDepth 100000 in
theorem c_Fi_withLetter {C : CT} {l : Launch} {S : ShT} {I : DI} {J : DJ} {d : Nat} (hC : OKC C l) (x : Int64) (p c : Int32) (hd : 0 ≤ d) : Sp C l k_Fi_withLetter y_Fi_withLetter (d, 0, 0) [.long x, .int p, .int c] S I J (PP (.long (wiLe x p c)) S I J) := by
  refine Sp.of hC cd_Fi_withLetter (Nat.le_of_ble_eq_true rfl) ?_
  show V C l k_Fi_withLetter (d, 0, 0) _ 0 [(0, .long x), (2, .int p), (3, .int c)] [] S I J (0, 0)
  refine v_iload_n 2 d_Fi_withLetter_0 rfl rfl rfl ?_
  refine v_bipush (v := 32) d_Fi_withLetter_1 (by decide) rfl ?_
  refine v_ior d_Fi_withLetter_3 rfl ?_
  refine v_nmi (fun z1 ez1 => ?_)
  refine v_i2l d_Fi_withLetter_4 rfl rfl ?_
  refine v_nml (fun z2 ez2 => ?_)
  refine v_lstore (L' := [(4, .long z2), (0, .long x), (2, .int p), (3, .int c)]) d_Fi_withLetter_5 (by decide) rfl rfl ?_
  refine v_lload_n 1 d_Fi_withLetter_7 rfl rfl rfl ?_
  refine v_lload 0 d_Fi_withLetter_8 rfl rfl ?_
  refine v_bipush (v := 8) d_Fi_withLetter_10 (by decide) rfl ?_
  refine v_bipush (v := 7) d_Fi_withLetter_12 (by decide) rfl ?_
  refine v_iload_n 2 d_Fi_withLetter_14 rfl rfl rfl ?_
  refine v_isub d_Fi_withLetter_15 rfl ?_
  refine v_nmi (fun z3 ez3 => ?_)
  refine v_imul d_Fi_withLetter_16 rfl ?_
  refine v_nmi (fun z4 ez4 => ?_)
  refine v_lshl d_Fi_withLetter_17 rfl rfl ?_
  refine v_nml (fun z5 ez5 => ?_)
  refine v_lor d_Fi_withLetter_18 rfl ?_
  refine v_nml (fun z6 ez6 => ?_)
  refine v_lret d_Fi_withLetter_19 rfl ?_
  exact ⟨by subst_vars; rfl, rfl, rfl, rfl⟩
theorem isNd_j {x : Int32} (h : isNd x = true) : ∃ j : Nat, j < 16 ∧ x = nI j := by
  simp only [isNd, Bool.and_eq_true, Bool.not_eq_true', decide_eq_false_iff_not] at h
  rcases pk_ix x (n := 16) (by decide) with h1 | h1 | h1
  · exact absurd h1 h.1
  · exact absurd h1 h.2
  · exact h1
theorem isNd_nI {j : Nat} (h : j < 16) : isNd (nI j) = true := by
  simp only [isNd, Bool.and_eq_true, Bool.not_eq_true', decide_eq_false_iff_not]
  exact ⟨nI_pos (by omega), nI_ge h (by decide)⟩
/-- a node's state, by its number; 0 where there is no such node -/
def ndS (I : DI) (x : Int32) : Int32 := if isNd x then I 2 x.toNatClampNeg else 0
theorem ndS_j {I : DI} {j : Nat} (h : j < 16) : ndS I (nI j) = I 2 j := by
  unfold ndS
  rw [if_pos (isNd_nI h), nI_clamp (by omega)]
theorem ndS_n {I : DI} {x : Int32} (h : isNd x = false) : ndS I x = 0 := by
  unfold ndS
  rw [h]
  rfl
set_option maxHeartbeats 4000000 in
set_option maxRecDepth 100000 in
theorem c_Tr_isThere {C : CT} {l : Launch} {S : ShT} {I : DI} {J : DJ} {d : Nat} (hC : OKC C l) (hS : SHP S) (x : Int32) (hd : 1 ≤ d) : Sp C l k_Tr_isThere y_Tr_isThere (d, 0, 0) [.ref 1, .int x] S I J (PP (.int (bI (!decide (ndS I x = 0)))) S I J) := by
  refine Sp.of hC cd_Tr_isThere (Nat.le_of_ble_eq_true rfl) ?_
  show V C l k_Tr_isThere (d, 0, 0) _ 0 [(0, .ref 1), (1, .int x)] [] S I J (0, 0)
  refine v_iload_n 1 d_Tr_isThere_0 rfl rfl rfl ?_
  refine v_cNp (as := [.int x]) d_Tr_isThere_1 cs_Tr_26 (c_Fi_isNode hC (d := d - 1) x (by omega)) rfl rfl (by decide) (by omega) rfl ?_
  refine v_if_eq (tgt := 20) d_Tr_isThere_4 (by decide) rfl (fun c1 => ?_) (fun c1 => ?_)
  · refine v_iconst (v := 0) d_Tr_isThere_20 (by decide) rfl ?_
    refine v_zret d_Tr_isThere_21 rfl (Or.inl rfl) ?_
    exact ⟨by first | (rw [ndS_j hj]; simp [bI, *]; done) | (rw [ndS_n (by simpa [bI] using c1)]; simp [bI]), rfl, rfl, rfl⟩
  · obtain ⟨j, hj, rfl⟩ := isNd_j (by simpa [bI] using c1)
    refine v_aload_n 0 d_Tr_isThere_7 rfl rfl rfl ?_
    refine v_getr (r := 2) d_Tr_isThere_8 fl_Tr_9 (hS.o (by decide) rfl) rfl (hS.r (by decide) rfl) rfl ?_
    refine v_iload_n 1 d_Tr_isThere_11 rfl rfl rfl ?_
    refine v_iald (j := j) d_Tr_isThere_12 (hS.a (t := 32) (n := 16) (by decide) rfl) rfl (by omega) (by decide) rfl ?_
    refine v_if_eq (tgt := 20) d_Tr_isThere_13 (by decide) rfl (fun c2 => ?_) (fun c2 => ?_)
    · refine v_iconst (v := 0) d_Tr_isThere_20 (by decide) rfl ?_
      refine v_zret d_Tr_isThere_21 rfl (Or.inl rfl) ?_
      exact ⟨by first | (rw [ndS_j hj]; simp [bI, *]; done) | (rw [ndS_n (by simpa [bI] using c1)]; simp [bI]), rfl, rfl, rfl⟩
    · refine v_iconst (v := 1) d_Tr_isThere_16 (by decide) rfl ?_
      refine v_goto (tgt := 21) d_Tr_isThere_17 (by decide) ?_
      refine v_zret d_Tr_isThere_21 rfl (Or.inr rfl) ?_
      exact ⟨by first | (rw [ndS_j hj]; simp [bI, *]; done) | (rw [ndS_n (by simpa [bI] using c1)]; simp [bI]), rfl, rfl, rfl⟩
set_option maxHeartbeats 4000000 in
set_option maxRecDepth 100000 in
theorem c_Tr_isFolder {C : CT} {l : Launch} {S : ShT} {I : DI} {J : DJ} {d : Nat} (hC : OKC C l) (hS : SHP S) (x : Int32) (hd : 1 ≤ d) : Sp C l k_Tr_isFolder y_Tr_isFolder (d, 0, 0) [.ref 1, .int x] S I J (PP (.int (bI (decide (ndS I x = 1)))) S I J) := by
  refine Sp.of hC cd_Tr_isFolder (Nat.le_of_ble_eq_true rfl) ?_
  show V C l k_Tr_isFolder (d, 0, 0) _ 0 [(0, .ref 1), (1, .int x)] [] S I J (0, 0)
  refine v_iload_n 1 d_Tr_isFolder_0 rfl rfl rfl ?_
  refine v_cNp (as := [.int x]) d_Tr_isFolder_1 cs_Tr_26 (c_Fi_isNode hC (d := d - 1) x (by omega)) rfl rfl (by decide) (by omega) rfl ?_
  refine v_if_eq (tgt := 21) d_Tr_isFolder_4 (by decide) rfl (fun c1 => ?_) (fun c1 => ?_)
  · refine v_iconst (v := 0) d_Tr_isFolder_21 (by decide) rfl ?_
    refine v_zret d_Tr_isFolder_22 rfl (Or.inl rfl) ?_
    exact ⟨by first | (rw [ndS_j hj]; simp [bI, *]; done) | (rw [ndS_n (by simpa [bI] using c1)]; simp [bI]), rfl, rfl, rfl⟩
  · obtain ⟨j, hj, rfl⟩ := isNd_j (by simpa [bI] using c1)
    refine v_aload_n 0 d_Tr_isFolder_7 rfl rfl rfl ?_
    refine v_getr (r := 2) d_Tr_isFolder_8 fl_Tr_9 (hS.o (by decide) rfl) rfl (hS.r (by decide) rfl) rfl ?_
    refine v_iload_n 1 d_Tr_isFolder_11 rfl rfl rfl ?_
    refine v_iald (j := j) d_Tr_isFolder_12 (hS.a (t := 32) (n := 16) (by decide) rfl) rfl (by omega) (by decide) rfl ?_
    refine v_iconst (v := 1) d_Tr_isFolder_13 (by decide) rfl ?_
    refine v_icmp_ne (tgt := 21) d_Tr_isFolder_14 (by decide) rfl (fun c2 => ?_) (fun c2 => ?_)
    · refine v_iconst (v := 0) d_Tr_isFolder_21 (by decide) rfl ?_
      refine v_zret d_Tr_isFolder_22 rfl (Or.inl rfl) ?_
      exact ⟨by first | (rw [ndS_j hj]; simp [bI, *]; done) | (rw [ndS_n (by simpa [bI] using c1)]; simp [bI]), rfl, rfl, rfl⟩
    · refine v_iconst (v := 1) d_Tr_isFolder_17 (by decide) rfl ?_
      refine v_goto (tgt := 22) d_Tr_isFolder_18 (by decide) ?_
      refine v_zret d_Tr_isFolder_22 rfl (Or.inr rfl) ?_
      exact ⟨by first | (rw [ndS_j hj]; simp [bI, *]; done) | (rw [ndS_n (by simpa [bI] using c1)]; simp [bI]), rfl, rfl, rfl⟩
set_option maxHeartbeats 4000000 in
set_option maxRecDepth 100000 in
theorem c_Tr_isFile {C : CT} {l : Launch} {S : ShT} {I : DI} {J : DJ} {d : Nat} (hC : OKC C l) (hS : SHP S) (x : Int32) (hd : 1 ≤ d) : Sp C l k_Tr_isFile y_Tr_isFile (d, 0, 0) [.ref 1, .int x] S I J (PP (.int (bI (decide (ndS I x = 2)))) S I J) := by
  refine Sp.of hC cd_Tr_isFile (Nat.le_of_ble_eq_true rfl) ?_
  show V C l k_Tr_isFile (d, 0, 0) _ 0 [(0, .ref 1), (1, .int x)] [] S I J (0, 0)
  refine v_iload_n 1 d_Tr_isFile_0 rfl rfl rfl ?_
  refine v_cNp (as := [.int x]) d_Tr_isFile_1 cs_Tr_26 (c_Fi_isNode hC (d := d - 1) x (by omega)) rfl rfl (by decide) (by omega) rfl ?_
  refine v_if_eq (tgt := 21) d_Tr_isFile_4 (by decide) rfl (fun c1 => ?_) (fun c1 => ?_)
  · refine v_iconst (v := 0) d_Tr_isFile_21 (by decide) rfl ?_
    refine v_zret d_Tr_isFile_22 rfl (Or.inl rfl) ?_
    exact ⟨by first | (rw [ndS_j hj]; simp [bI, *]; done) | (rw [ndS_n (by simpa [bI] using c1)]; simp [bI]), rfl, rfl, rfl⟩
  · obtain ⟨j, hj, rfl⟩ := isNd_j (by simpa [bI] using c1)
    refine v_aload_n 0 d_Tr_isFile_7 rfl rfl rfl ?_
    refine v_getr (r := 2) d_Tr_isFile_8 fl_Tr_9 (hS.o (by decide) rfl) rfl (hS.r (by decide) rfl) rfl ?_
    refine v_iload_n 1 d_Tr_isFile_11 rfl rfl rfl ?_
    refine v_iald (j := j) d_Tr_isFile_12 (hS.a (t := 32) (n := 16) (by decide) rfl) rfl (by omega) (by decide) rfl ?_
    refine v_iconst (v := 2) d_Tr_isFile_13 (by decide) rfl ?_
    refine v_icmp_ne (tgt := 21) d_Tr_isFile_14 (by decide) rfl (fun c2 => ?_) (fun c2 => ?_)
    · refine v_iconst (v := 0) d_Tr_isFile_21 (by decide) rfl ?_
      refine v_zret d_Tr_isFile_22 rfl (Or.inl rfl) ?_
      exact ⟨by first | (rw [ndS_j hj]; simp [bI, *]; done) | (rw [ndS_n (by simpa [bI] using c1)]; simp [bI]), rfl, rfl, rfl⟩
    · refine v_iconst (v := 1) d_Tr_isFile_17 (by decide) rfl ?_
      refine v_goto (tgt := 22) d_Tr_isFile_18 (by decide) ?_
      refine v_zret d_Tr_isFile_22 rfl (Or.inr rfl) ?_
      exact ⟨by first | (rw [ndS_j hj]; simp [bI, *]; done) | (rw [ndS_n (by simpa [bI] using c1)]; simp [bI]), rfl, rfl, rfl⟩
set_option maxHeartbeats 4000000 in
set_option maxRecDepth 100000 in
theorem c_Tr_parentOf {C : CT} {l : Launch} {S : ShT} {I : DI} {J : DJ} {d : Nat} (hC : OKC C l) (hS : SHP S) {j : Nat} (hj : j < 16) (hd : 0 ≤ d) : Sp C l k_Tr_parentOf y_Tr_parentOf (d, 0, 0) [.ref 1, .int (nI j)] S I J (PP (.int (I 3 j)) S I J) := by
  refine Sp.of hC cd_Tr_parentOf (Nat.le_of_ble_eq_true rfl) ?_
  show V C l k_Tr_parentOf (d, 0, 0) _ 0 [(0, .ref 1), (1, .int (nI j))] [] S I J (0, 0)
  refine v_aload_n 0 d_Tr_parentOf_0 rfl rfl rfl ?_
  refine v_getr (r := 3) d_Tr_parentOf_1 fl_Tr_15 (hS.o (by decide) rfl) rfl (hS.r (by decide) rfl) rfl ?_
  refine v_iload_n 1 d_Tr_parentOf_4 rfl rfl rfl ?_
  refine v_iald (j := j) d_Tr_parentOf_5 (hS.a (t := 32) (n := 16) (by decide) rfl) rfl (by omega) (by decide) rfl ?_
  refine v_iret d_Tr_parentOf_6 rfl ?_
  exact ⟨rfl, rfl, rfl, rfl⟩
set_option maxHeartbeats 4000000 in
set_option maxRecDepth 100000 in
theorem c_Tr_lengthOf {C : CT} {l : Launch} {S : ShT} {I : DI} {J : DJ} {d : Nat} (hC : OKC C l) (hS : SHP S) {j : Nat} (hj : j < 16) (hd : 0 ≤ d) : Sp C l k_Tr_lengthOf y_Tr_lengthOf (d, 0, 0) [.ref 1, .int (nI j)] S I J (PP (.int (I 21 j)) S I J) := by
  refine Sp.of hC cd_Tr_lengthOf (Nat.le_of_ble_eq_true rfl) ?_
  show V C l k_Tr_lengthOf (d, 0, 0) _ 0 [(0, .ref 1), (1, .int (nI j))] [] S I J (0, 0)
  refine v_aload_n 0 d_Tr_lengthOf_0 rfl rfl rfl ?_
  refine v_getr (r := 21) d_Tr_lengthOf_1 fl_Tr_23 (hS.o (by decide) rfl) rfl (hS.r (by decide) rfl) rfl ?_
  refine v_iload_n 1 d_Tr_lengthOf_4 rfl rfl rfl ?_
  refine v_iald (j := j) d_Tr_lengthOf_5 (hS.a (t := 32) (n := 16) (by decide) rfl) rfl (by omega) (by decide) rfl ?_
  refine v_iret d_Tr_lengthOf_6 rfl ?_
  exact ⟨rfl, rfl, rfl, rfl⟩
set_option maxHeartbeats 4000000 in
set_option maxRecDepth 100000 in
theorem c_Tr_contentOf {C : CT} {l : Launch} {S : ShT} {I : DI} {J : DJ} {d : Nat} (hC : OKC C l) (hS : SHP S) {j : Nat} (hj : j < 16) (hd : 0 ≤ d) : Sp C l k_Tr_contentOf y_Tr_contentOf (d, 0, 0) [.ref 1, .int (nI j)] S I J (PP (.ref (5 + j)) S I J) := by
  refine Sp.of hC cd_Tr_contentOf (Nat.le_of_ble_eq_true rfl) ?_
  show V C l k_Tr_contentOf (d, 0, 0) _ 0 [(0, .ref 1), (1, .int (nI j))] [] S I J (0, 0)
  refine v_aload_n 0 d_Tr_contentOf_0 rfl rfl rfl ?_
  refine v_getr (r := 4) d_Tr_contentOf_1 fl_Tr_20 (hS.o (by decide) rfl) rfl (hS.r (by decide) rfl) rfl ?_
  refine v_iload_n 1 d_Tr_contentOf_4 rfl rfl rfl ?_
  refine v_aald (j := j) (r := (5 + j)) d_Tr_contentOf_5 (hS.a (t := 37) (n := 16) (by decide) rfl) (by decide) rfl (by omega) (by decide) (hS.coR (by omega)) rfl ?_
  refine v_aret d_Tr_contentOf_6 (Or.inr ⟨_, rfl⟩) ?_
  exact ⟨rfl, rfl, rfl, rfl⟩
end
section
def ixH (I : DI) (x : Int32) : Bool := isNd x && decide (I 27 x.toNatClampNeg = 1)
theorem ixH_j {I : DI} {j : Nat} (h : j < 16) : ixH I (nI j) = decide (I 27 j = 1) := by
  unfold ixH
  rw [isNd_nI h, nI_clamp (by omega), Bool.true_and]
theorem ixH_n {I : DI} {x : Int32} (h : isNd x = false) : ixH I x = false := by
  unfold ixH
  rw [h, Bool.false_and]
set_option maxHeartbeats 4000000 in
set_option maxRecDepth 100000 in
theorem c_Tr_put {C : CT} {l : Launch} {S : ShT} {I : DI} {J : DJ} {d : Nat} (hC : OKC C l) (hS : SHP S) {j k : Nat} (hj : j < 16) (p : Bool) (hd : 0 ≤ d) : Sp C l k_Tr_put y_Tr_put (d, 0, 0) [.ref 1, .int (nI j), .int (nI k), .int (bI p)] S I J (PU S J (fun I' => I' = u2 (u2 (u2 I 2 j (if p then 1 else 2)) 3 j (nI k)) 21 j 0)) := by
  refine Sp.of hC cd_Tr_put (Nat.le_of_ble_eq_true rfl) ?_
  show V C l k_Tr_put (d, 0, 0) _ 0 [(0, .ref 1), (1, .int (nI j)), (2, .int (nI k)), (3, .int (bI p))] [] S I J (0, 0)
  refine v_aload_n 0 d_Tr_put_0 rfl rfl rfl ?_
  refine v_getr (r := 2) d_Tr_put_1 fl_Tr_9 (hS.o (by decide) rfl) rfl (hS.r (by decide) rfl) rfl ?_
  refine v_iload_n 1 d_Tr_put_4 rfl rfl rfl ?_
  refine v_iload_n 3 d_Tr_put_5 rfl rfl rfl ?_
  refine v_if_eq (tgt := 13) d_Tr_put_6 (by decide) rfl (fun c1 => ?_) (fun c1 => ?_)
  · refine v_iconst (v := 2) d_Tr_put_13 (by decide) rfl ?_
    refine v_iast (j := j) d_Tr_put_14 (hS.a (t := 32) (n := 16) (by decide) rfl) rfl (by omega) (by decide) rfl ?_
    generalize hI2 : u2 I 2 j 2 = I2
    refine v_aload_n 0 d_Tr_put_15 rfl rfl rfl ?_
    refine v_getr (r := 3) d_Tr_put_16 fl_Tr_15 (hS.o (by decide) rfl) rfl (hS.r (by decide) rfl) rfl ?_
    refine v_iload_n 1 d_Tr_put_19 rfl rfl rfl ?_
    refine v_iload_n 2 d_Tr_put_20 rfl rfl rfl ?_
    refine v_iast (j := j) d_Tr_put_21 (hS.a (t := 32) (n := 16) (by decide) rfl) rfl (by omega) (by decide) rfl ?_
    generalize hI3 : u2 I2 3 j (nI k) = I3
    refine v_aload_n 0 d_Tr_put_22 rfl rfl rfl ?_
    refine v_getr (r := 21) d_Tr_put_23 fl_Tr_23 (hS.o (by decide) rfl) rfl (hS.r (by decide) rfl) rfl ?_
    refine v_iload_n 1 d_Tr_put_26 rfl rfl rfl ?_
    refine v_iconst (v := 0) d_Tr_put_27 (by decide) rfl ?_
    refine v_iast (j := j) d_Tr_put_28 (hS.a (t := 32) (n := 16) (by decide) rfl) rfl (by omega) (by decide) rfl ?_
    generalize hI4 : u2 I3 21 j 0 = I4
    refine v_vret d_Tr_put_29 rfl ?_
    exact ⟨rfl, rfl, rfl, by subst_vars; cases p <;> simp_all [bI]⟩
  · refine v_iconst (v := 1) d_Tr_put_9 (by decide) rfl ?_
    refine v_goto (tgt := 14) d_Tr_put_10 (by decide) ?_
    refine v_iast (j := j) d_Tr_put_14 (hS.a (t := 32) (n := 16) (by decide) rfl) rfl (by omega) (by decide) rfl ?_
    generalize hI5 : u2 I 2 j 1 = I5
    refine v_aload_n 0 d_Tr_put_15 rfl rfl rfl ?_
    refine v_getr (r := 3) d_Tr_put_16 fl_Tr_15 (hS.o (by decide) rfl) rfl (hS.r (by decide) rfl) rfl ?_
    refine v_iload_n 1 d_Tr_put_19 rfl rfl rfl ?_
    refine v_iload_n 2 d_Tr_put_20 rfl rfl rfl ?_
    refine v_iast (j := j) d_Tr_put_21 (hS.a (t := 32) (n := 16) (by decide) rfl) rfl (by omega) (by decide) rfl ?_
    generalize hI6 : u2 I5 3 j (nI k) = I6
    refine v_aload_n 0 d_Tr_put_22 rfl rfl rfl ?_
    refine v_getr (r := 21) d_Tr_put_23 fl_Tr_23 (hS.o (by decide) rfl) rfl (hS.r (by decide) rfl) rfl ?_
    refine v_iload_n 1 d_Tr_put_26 rfl rfl rfl ?_
    refine v_iconst (v := 0) d_Tr_put_27 (by decide) rfl ?_
    refine v_iast (j := j) d_Tr_put_28 (hS.a (t := 32) (n := 16) (by decide) rfl) rfl (by omega) (by decide) rfl ?_
    generalize hI7 : u2 I6 21 j 0 = I7
    refine v_vret d_Tr_put_29 rfl ?_
    exact ⟨rfl, rfl, rfl, by subst_vars; cases p <;> simp_all [bI]⟩
set_option maxHeartbeats 4000000 in
set_option maxRecDepth 100000 in
theorem c_Tr_hang {C : CT} {l : Launch} {S : ShT} {I : DI} {J : DJ} {d : Nat} (hC : OKC C l) (hS : SHP S) {j k : Nat} (hj : j < 16) (hd : 0 ≤ d) : Sp C l k_Tr_hang y_Tr_hang (d, 0, 0) [.ref 1, .int (nI j), .int (nI k)] S I J (PU S J (fun I' => I' = u2 I 3 j (nI k))) := by
  refine Sp.of hC cd_Tr_hang (Nat.le_of_ble_eq_true rfl) ?_
  show V C l k_Tr_hang (d, 0, 0) _ 0 [(0, .ref 1), (1, .int (nI j)), (2, .int (nI k))] [] S I J (0, 0)
  refine v_aload_n 0 d_Tr_hang_0 rfl rfl rfl ?_
  refine v_getr (r := 3) d_Tr_hang_1 fl_Tr_15 (hS.o (by decide) rfl) rfl (hS.r (by decide) rfl) rfl ?_
  refine v_iload_n 1 d_Tr_hang_4 rfl rfl rfl ?_
  refine v_iload_n 2 d_Tr_hang_5 rfl rfl rfl ?_
  refine v_iast (j := j) d_Tr_hang_6 (hS.a (t := 32) (n := 16) (by decide) rfl) rfl (by omega) (by decide) rfl ?_
  generalize hI1 : u2 I 3 j (nI k) = I1
  refine v_vret d_Tr_hang_7 rfl ?_
  exact ⟨rfl, rfl, rfl, by subst_vars; rfl⟩
set_option maxHeartbeats 4000000 in
set_option maxRecDepth 100000 in
theorem c_Tr_drop {C : CT} {l : Launch} {S : ShT} {I : DI} {J : DJ} {d : Nat} (hC : OKC C l) (hS : SHP S) {j : Nat} (hj : j < 16) (hd : 0 ≤ d) : Sp C l k_Tr_drop y_Tr_drop (d, 0, 0) [.ref 1, .int (nI j)] S I J (PU S J (fun I' => I' = u2 I 2 j 0)) := by
  refine Sp.of hC cd_Tr_drop (Nat.le_of_ble_eq_true rfl) ?_
  show V C l k_Tr_drop (d, 0, 0) _ 0 [(0, .ref 1), (1, .int (nI j))] [] S I J (0, 0)
  refine v_aload_n 0 d_Tr_drop_0 rfl rfl rfl ?_
  refine v_getr (r := 2) d_Tr_drop_1 fl_Tr_9 (hS.o (by decide) rfl) rfl (hS.r (by decide) rfl) rfl ?_
  refine v_iload_n 1 d_Tr_drop_4 rfl rfl rfl ?_
  refine v_iconst (v := 0) d_Tr_drop_5 (by decide) rfl ?_
  refine v_iast (j := j) d_Tr_drop_6 (hS.a (t := 32) (n := 16) (by decide) rfl) rfl (by omega) (by decide) rfl ?_
  generalize hI1 : u2 I 2 j 0 = I1
  refine v_vret d_Tr_drop_7 rfl ?_
  exact ⟨rfl, rfl, rfl, by subst_vars; rfl⟩
set_option maxHeartbeats 4000000 in
set_option maxRecDepth 100000 in
theorem c_Tr_shorten {C : CT} {l : Launch} {S : ShT} {I : DI} {J : DJ} {d : Nat} (hC : OKC C l) (hS : SHP S) {j k : Nat} (hj : j < 16) (hd : 0 ≤ d) : Sp C l k_Tr_shorten y_Tr_shorten (d, 0, 0) [.ref 1, .int (nI j), .int (nI k)] S I J (PU S J (fun I' => I' = u2 I 21 j (nI k))) := by
  refine Sp.of hC cd_Tr_shorten (Nat.le_of_ble_eq_true rfl) ?_
  show V C l k_Tr_shorten (d, 0, 0) _ 0 [(0, .ref 1), (1, .int (nI j)), (2, .int (nI k))] [] S I J (0, 0)
  refine v_aload_n 0 d_Tr_shorten_0 rfl rfl rfl ?_
  refine v_getr (r := 21) d_Tr_shorten_1 fl_Tr_23 (hS.o (by decide) rfl) rfl (hS.r (by decide) rfl) rfl ?_
  refine v_iload_n 1 d_Tr_shorten_4 rfl rfl rfl ?_
  refine v_iload_n 2 d_Tr_shorten_5 rfl rfl rfl ?_
  refine v_iast (j := j) d_Tr_shorten_6 (hS.a (t := 32) (n := 16) (by decide) rfl) rfl (by omega) (by decide) rfl ?_
  generalize hI1 : u2 I 21 j (nI k) = I1
  refine v_vret d_Tr_shorten_7 rfl ?_
  exact ⟨rfl, rfl, rfl, by subst_vars; rfl⟩
set_option maxHeartbeats 4000000 in
set_option maxRecDepth 100000 in
theorem c_Tr_append {C : CT} {l : Launch} {S : ShT} {I : DI} {J : DJ} {d : Nat} (hC : OKC C l) (hS : SHP S) {j n : Nat} (hj : j < 16) (x : Int32) (hn : I 21 j = nI n) (hn6 : n < 60) (hd : 0 ≤ d) : Sp C l k_Tr_append y_Tr_append (d, 0, 0) [.ref 1, .int (nI j), .int x] S I J (PU S J (fun I' => I' = u2 (u2 I (5 + j) n x) 21 j (nI (n + 1)))) := by
  refine Sp.of hC cd_Tr_append (Nat.le_of_ble_eq_true rfl) ?_
  show V C l k_Tr_append (d, 0, 0) _ 0 [(0, .ref 1), (1, .int (nI j)), (2, .int x)] [] S I J (0, 0)
  refine v_aload_n 0 d_Tr_append_0 rfl rfl rfl ?_
  refine v_getr (r := 4) d_Tr_append_1 fl_Tr_20 (hS.o (by decide) rfl) rfl (hS.r (by decide) rfl) rfl ?_
  refine v_iload_n 1 d_Tr_append_4 rfl rfl rfl ?_
  refine v_aald (j := j) (r := (5 + j)) d_Tr_append_5 (hS.a (t := 37) (n := 16) (by decide) rfl) (by decide) rfl (by omega) (by decide) (hS.coR (by omega)) rfl ?_
  refine v_aload_n 0 d_Tr_append_6 rfl rfl rfl ?_
  refine v_getr (r := 21) d_Tr_append_7 fl_Tr_23 (hS.o (by decide) rfl) rfl (hS.r (by decide) rfl) rfl ?_
  refine v_iload_n 1 d_Tr_append_10 rfl rfl rfl ?_
  refine v_iald (j := j) d_Tr_append_11 (hS.a (t := 32) (n := 16) (by decide) rfl) rfl (by omega) (by decide) rfl ?_
  refine v_iload_n 2 d_Tr_append_12 rfl rfl rfl ?_
  refine v_iast (j := n) d_Tr_append_13 (hS.co hj) hn (by omega) (by decide) rfl ?_
  generalize hI1 : u2 I ((5 + j)) n x = I1
  refine v_aload_n 0 d_Tr_append_14 rfl rfl rfl ?_
  refine v_getr (r := 21) d_Tr_append_15 fl_Tr_23 (hS.o (by decide) rfl) rfl (hS.r (by decide) rfl) rfl ?_
  refine v_iload_n 1 d_Tr_append_18 rfl rfl rfl ?_
  refine v_dup2 d_Tr_append_19 rfl rfl rfl ?_
  refine v_iald (j := j) d_Tr_append_20 (hS.a (t := 32) (n := 16) (by decide) rfl) rfl (by omega) (by decide) rfl ?_
  refine v_iconst (v := 1) d_Tr_append_21 (by decide) rfl ?_
  refine v_iadd d_Tr_append_22 rfl ?_
  refine v_nmi (fun z2 ez2 => ?_)
  refine v_iast (j := j) d_Tr_append_23 (hS.a (t := 32) (n := 16) (by decide) rfl) rfl (by omega) (by decide) rfl ?_
  generalize hI3 : u2 I1 21 j z2 = I3
  refine v_vret d_Tr_append_24 rfl ?_
  exact ⟨rfl, rfl, rfl, by subst_vars; simp only [u2_n (show (21 : Nat) ≠ 5 + j ∨ j ≠ n by omega), hn, nI_1]⟩
set_option maxHeartbeats 4000000 in
set_option maxRecDepth 100000 in
theorem c_Qu_size {C : CT} {l : Launch} {S : ShT} {I : DI} {J : DJ} {d : Nat} (hC : OKC C l) (hS : SHP S) (hd : 0 ≤ d) : Sp C l k_Qu_size y_Qu_size (d, 0, 0) [.ref 22] S I J (PP (.int (I 22 2)) S I J) := by
  refine Sp.of hC cd_Qu_size (Nat.le_of_ble_eq_true rfl) ?_
  show V C l k_Qu_size (d, 0, 0) _ 0 [(0, .ref 22)] [] S I J (0, 0)
  refine v_aload_n 0 d_Qu_size_0 rfl rfl rfl ?_
  refine v_geti d_Qu_size_1 fl_Qu_18 (hS.o (by decide) rfl) rfl rfl ?_
  refine v_iret d_Qu_size_4 rfl ?_
  exact ⟨rfl, rfl, rfl, rfl⟩
set_option maxHeartbeats 4000000 in
set_option maxRecDepth 100000 in
theorem c_Qu_isLost {C : CT} {l : Launch} {S : ShT} {I : DI} {J : DJ} {d : Nat} (hC : OKC C l) (hS : SHP S) (hb : I 22 3 = 0 ∨ I 22 3 = 1) (hd : 0 ≤ d) : Sp C l k_Qu_isLost y_Qu_isLost (d, 0, 0) [.ref 22] S I J (PP (.int (I 22 3)) S I J) := by
  refine Sp.of hC cd_Qu_isLost (Nat.le_of_ble_eq_true rfl) ?_
  show V C l k_Qu_isLost (d, 0, 0) _ 0 [(0, .ref 22)] [] S I J (0, 0)
  refine v_aload_n 0 d_Qu_isLost_0 rfl rfl rfl ?_
  refine v_geti d_Qu_isLost_1 fl_Qu_22 (hS.o (by decide) rfl) rfl rfl ?_
  refine v_zret d_Qu_isLost_4 rfl (by first | exact bI01 _ | assumption) ?_
  exact ⟨rfl, rfl, rfl, rfl⟩
set_option maxHeartbeats 4000000 in
set_option maxRecDepth 100000 in
theorem c_Qu_kindAt {C : CT} {l : Launch} {S : ShT} {I : DI} {J : DJ} {d : Nat} (hC : OKC C l) (hS : SHP S) {j : Nat} (hj : j < 8) (hd : 0 ≤ d) : Sp C l k_Qu_kindAt y_Qu_kindAt (d, 0, 0) [.ref 22, .int (nI j)] S I J (PP (.int (I 23 j)) S I J) := by
  refine Sp.of hC cd_Qu_kindAt (Nat.le_of_ble_eq_true rfl) ?_
  show V C l k_Qu_kindAt (d, 0, 0) _ 0 [(0, .ref 22), (1, .int (nI j))] [] S I J (0, 0)
  refine v_aload_n 0 d_Qu_kindAt_0 rfl rfl rfl ?_
  refine v_getr (r := 23) d_Qu_kindAt_1 fl_Qu_9 (hS.o (by decide) rfl) rfl (hS.r (by decide) rfl) rfl ?_
  refine v_iload_n 1 d_Qu_kindAt_4 rfl rfl rfl ?_
  refine v_iald (j := j) d_Qu_kindAt_5 (hS.a (t := 32) (n := 8) (by decide) rfl) rfl (by omega) (by decide) rfl ?_
  refine v_iret d_Qu_kindAt_6 rfl ?_
  exact ⟨rfl, rfl, rfl, rfl⟩
set_option maxHeartbeats 4000000 in
set_option maxRecDepth 100000 in
theorem c_Qu_fileAt {C : CT} {l : Launch} {S : ShT} {I : DI} {J : DJ} {d : Nat} (hC : OKC C l) (hS : SHP S) {j : Nat} (hj : j < 8) (hd : 0 ≤ d) : Sp C l k_Qu_fileAt y_Qu_fileAt (d, 0, 0) [.ref 22, .int (nI j)] S I J (PP (.int (I 24 j)) S I J) := by
  refine Sp.of hC cd_Qu_fileAt (Nat.le_of_ble_eq_true rfl) ?_
  show V C l k_Qu_fileAt (d, 0, 0) _ 0 [(0, .ref 22), (1, .int (nI j))] [] S I J (0, 0)
  refine v_aload_n 0 d_Qu_fileAt_0 rfl rfl rfl ?_
  refine v_getr (r := 24) d_Qu_fileAt_1 fl_Qu_15 (hS.o (by decide) rfl) rfl (hS.r (by decide) rfl) rfl ?_
  refine v_iload_n 1 d_Qu_fileAt_4 rfl rfl rfl ?_
  refine v_iald (j := j) d_Qu_fileAt_5 (hS.a (t := 32) (n := 8) (by decide) rfl) rfl (by omega) (by decide) rfl ?_
  refine v_iret d_Qu_fileAt_6 rfl ?_
  exact ⟨rfl, rfl, rfl, rfl⟩
set_option maxHeartbeats 4000000 in
set_option maxRecDepth 100000 in
theorem c_Qu_startAnew {C : CT} {l : Launch} {S : ShT} {I : DI} {J : DJ} {d : Nat} (hC : OKC C l) (hS : SHP S) (hd : 0 ≤ d) : Sp C l k_Qu_startAnew y_Qu_startAnew (d, 0, 0) [.ref 22] S I J (PU S J (fun I' => I' = u2 (u2 I 22 2 0) 22 3 0)) := by
  refine Sp.of hC cd_Qu_startAnew (Nat.le_of_ble_eq_true rfl) ?_
  show V C l k_Qu_startAnew (d, 0, 0) _ 0 [(0, .ref 22)] [] S I J (0, 0)
  refine v_aload_n 0 d_Qu_startAnew_0 rfl rfl rfl ?_
  refine v_iconst (v := 0) d_Qu_startAnew_1 (by decide) rfl ?_
  refine v_puti d_Qu_startAnew_2 fl_Qu_18 (hS.o (by decide) rfl) rfl rfl rfl ?_
  generalize hI1 : u2 I 22 2 0 = I1
  refine v_aload_n 0 d_Qu_startAnew_5 rfl rfl rfl ?_
  refine v_iconst (v := 0) d_Qu_startAnew_6 (by decide) rfl ?_
  refine v_putz d_Qu_startAnew_7 fl_Qu_22 (hS.o (by decide) rfl) rfl rfl (Or.inl rfl) rfl ?_
  generalize hI2 : u2 I1 22 3 0 = I2
  refine v_vret d_Qu_startAnew_10 rfl ?_
  exact ⟨rfl, rfl, rfl, by subst_vars; rfl⟩
set_option maxHeartbeats 4000000 in
set_option maxRecDepth 100000 in
theorem c_Ix_has {C : CT} {l : Launch} {S : ShT} {I : DI} {J : DJ} {d : Nat} (hC : OKC C l) (hS : SHP S) (hb : ∀ i, i < 16 → I 27 i = 0 ∨ I 27 i = 1) (x : Int32) (hd : 1 ≤ d) : Sp C l k_Ix_has y_Ix_has (d, 0, 0) [.ref 25, .int x] S I J (PP (.int (bI (ixH I x))) S I J) := by
  refine Sp.of hC cd_Ix_has (Nat.le_of_ble_eq_true rfl) ?_
  show V C l k_Ix_has (d, 0, 0) _ 0 [(0, .ref 25), (1, .int x)] [] S I J (0, 0)
  refine v_iload_n 1 d_Ix_has_0 rfl rfl rfl ?_
  refine v_cNp (as := [.int x]) d_Ix_has_1 cs_Ix_22 (c_Fi_isNode hC (d := d - 1) x (by omega)) rfl rfl (by decide) (by omega) rfl ?_
  refine v_if_eq (tgt := 20) d_Ix_has_4 (by decide) rfl (fun c1 => ?_) (fun c1 => ?_)
  · refine v_iconst (v := 0) d_Ix_has_20 (by decide) rfl ?_
    refine v_zret d_Ix_has_21 rfl (Or.inl rfl) ?_
    exact ⟨by first | (rw [ixH_j hj]; rcases hb j hj with h9 | h9 <;> simp_all [bI]; done) | (rw [ixH_n (by simpa [bI] using c1)]; simp [bI]), rfl, rfl, rfl⟩
  · obtain ⟨j, hj, rfl⟩ := isNd_j (by simpa [bI] using c1)
    refine v_aload_n 0 d_Ix_has_7 rfl rfl rfl ?_
    refine v_getr (r := 27) d_Ix_has_8 fl_Ix_17 (hS.o (by decide) rfl) rfl (hS.r (by decide) rfl) rfl ?_
    refine v_iload_n 1 d_Ix_has_11 rfl rfl rfl ?_
    refine v_zald (j := j) d_Ix_has_12 (hS.a (t := 33) (n := 16) (by decide) rfl) rfl (by omega) (by decide) rfl ?_
    refine v_if_eq (tgt := 20) d_Ix_has_13 (by decide) rfl (fun c2 => ?_) (fun c2 => ?_)
    · refine v_iconst (v := 0) d_Ix_has_20 (by decide) rfl ?_
      refine v_zret d_Ix_has_21 rfl (Or.inl rfl) ?_
      exact ⟨by first | (rw [ixH_j hj]; rcases hb j hj with h9 | h9 <;> simp_all [bI]; done) | (rw [ixH_n (by simpa [bI] using c1)]; simp [bI]), rfl, rfl, rfl⟩
    · refine v_iconst (v := 1) d_Ix_has_16 (by decide) rfl ?_
      refine v_goto (tgt := 21) d_Ix_has_17 (by decide) ?_
      refine v_zret d_Ix_has_21 rfl (Or.inr rfl) ?_

      exact ⟨by first | (rw [ixH_j hj]; rcases hb j hj with h9 | h9 <;> simp_all [bI]; done) | (rw [ixH_n (by simpa [bI] using c1)]; simp [bI]), rfl, rfl, rfl⟩
set_option maxHeartbeats 4000000 in
set_option maxRecDepth 100000 in
theorem c_Ix_entryOf {C : CT} {l : Launch} {S : ShT} {I : DI} {J : DJ} {d : Nat} (hC : OKC C l) (hS : SHP S) {j : Nat} (hj : j < 16) (hd : 0 ≤ d) : Sp C l k_Ix_entryOf y_Ix_entryOf (d, 0, 0) [.ref 25, .int (nI j)] S I J (PP (.ref (28 + 3 * j)) S I J) := by
  refine Sp.of hC cd_Ix_entryOf (Nat.le_of_ble_eq_true rfl) ?_
  show V C l k_Ix_entryOf (d, 0, 0) _ 0 [(0, .ref 25), (1, .int (nI j))] [] S I J (0, 0)
  refine v_aload_n 0 d_Ix_entryOf_0 rfl rfl rfl ?_
  refine v_getr (r := 26) d_Ix_entryOf_1 fl_Ix_11 (hS.o (by decide) rfl) rfl (hS.r (by decide) rfl) rfl ?_
  refine v_iload_n 1 d_Ix_entryOf_4 rfl rfl rfl ?_
  refine v_aald (j := j) (r := (28 + 3 * j)) d_Ix_entryOf_5 (hS.a (t := 35) (n := 16) (by decide) rfl) (by decide) rfl (by omega) (by decide) (hS.enR (by omega)) rfl ?_
  refine v_aret d_Ix_entryOf_6 (Or.inl ⟨_, rfl⟩) ?_
  exact ⟨rfl, rfl, rfl, rfl⟩
set_option maxHeartbeats 4000000 in
set_option maxRecDepth 100000 in
theorem c_Ix_forget {C : CT} {l : Launch} {S : ShT} {I : DI} {J : DJ} {d : Nat} (hC : OKC C l) (hS : SHP S) {j : Nat} (hj : j < 16) (hd : 0 ≤ d) : Sp C l k_Ix_forget y_Ix_forget (d, 0, 0) [.ref 25, .int (nI j)] S I J (PU S J (fun I' => I' = u2 I 27 j 0)) := by
  refine Sp.of hC cd_Ix_forget (Nat.le_of_ble_eq_true rfl) ?_
  show V C l k_Ix_forget (d, 0, 0) _ 0 [(0, .ref 25), (1, .int (nI j))] [] S I J (0, 0)
  refine v_aload_n 0 d_Ix_forget_0 rfl rfl rfl ?_
  refine v_getr (r := 27) d_Ix_forget_1 fl_Ix_17 (hS.o (by decide) rfl) rfl (hS.r (by decide) rfl) rfl ?_
  refine v_iload_n 1 d_Ix_forget_4 rfl rfl rfl ?_
  refine v_iconst (v := 0) d_Ix_forget_5 (by decide) rfl ?_
  refine v_zast (j := j) d_Ix_forget_6 (hS.a (t := 33) (n := 16) (by decide) rfl) rfl (by omega) (by decide) (Or.inl rfl) rfl ?_
  generalize hI1 : u2 I 27 j 0 = I1
  refine v_vret d_Ix_forget_7 rfl ?_
  exact ⟨rfl, rfl, rfl, by subst_vars; rfl⟩
set_option maxHeartbeats 4000000 in
set_option maxRecDepth 100000 in
theorem c_Ix_timesRead {C : CT} {l : Launch} {S : ShT} {I : DI} {J : DJ} {d : Nat} (hC : OKC C l) (hS : SHP S) (hd : 0 ≤ d) : Sp C l k_Ix_timesRead y_Ix_timesRead (d, 0, 0) [.ref 25] S I J (PP (.int (I 25 2)) S I J) := by
  refine Sp.of hC cd_Ix_timesRead (Nat.le_of_ble_eq_true rfl) ?_
  show V C l k_Ix_timesRead (d, 0, 0) _ 0 [(0, .ref 25)] [] S I J (0, 0)
  refine v_aload_n 0 d_Ix_timesRead_0 rfl rfl rfl ?_
  refine v_geti d_Ix_timesRead_1 fl_Ix_30 (hS.o (by decide) rfl) rfl rfl ?_
  refine v_iret d_Ix_timesRead_4 rfl ?_
  exact ⟨rfl, rfl, rfl, rfl⟩
set_option maxHeartbeats 4000000 in
set_option maxRecDepth 100000 in
theorem c_Rk_size {C : CT} {l : Launch} {S : ShT} {I : DI} {J : DJ} {d : Nat} (hC : OKC C l) (hS : SHP S) (hd : 0 ≤ d) : Sp C l k_Rk_size y_Rk_size (d, 0, 0) [.ref 121] S I J (PP (.int (I 121 2)) S I J) := by
  refine Sp.of hC cd_Rk_size (Nat.le_of_ble_eq_true rfl) ?_
  show V C l k_Rk_size (d, 0, 0) _ 0 [(0, .ref 121)] [] S I J (0, 0)
  refine v_aload_n 0 d_Rk_size_0 rfl rfl rfl ?_
  refine v_geti d_Rk_size_1 fl_Rk_18 (hS.o (by decide) rfl) rfl rfl ?_
  refine v_iret d_Rk_size_4 rfl ?_
  exact ⟨rfl, rfl, rfl, rfl⟩
set_option maxHeartbeats 4000000 in
set_option maxRecDepth 100000 in
theorem c_Rk_fileAt {C : CT} {l : Launch} {S : ShT} {I : DI} {J : DJ} {d : Nat} (hC : OKC C l) (hS : SHP S) {j : Nat} (hj : j < 16) (hd : 0 ≤ d) : Sp C l k_Rk_fileAt y_Rk_fileAt (d, 0, 0) [.ref 121, .int (nI j)] S I J (PP (.int (I 122 j)) S I J) := by
  refine Sp.of hC cd_Rk_fileAt (Nat.le_of_ble_eq_true rfl) ?_
  show V C l k_Rk_fileAt (d, 0, 0) _ 0 [(0, .ref 121), (1, .int (nI j))] [] S I J (0, 0)
  refine v_aload_n 0 d_Rk_fileAt_0 rfl rfl rfl ?_
  refine v_getr (r := 122) d_Rk_fileAt_1 fl_Rk_9 (hS.o (by decide) rfl) rfl (hS.r (by decide) rfl) rfl ?_
  refine v_iload_n 1 d_Rk_fileAt_4 rfl rfl rfl ?_
  refine v_iald (j := j) d_Rk_fileAt_5 (hS.a (t := 32) (n := 16) (by decide) rfl) rfl (by omega) (by decide) rfl ?_
  refine v_iret d_Rk_fileAt_6 rfl ?_
  exact ⟨rfl, rfl, rfl, rfl⟩
set_option maxHeartbeats 4000000 in
set_option maxRecDepth 100000 in
theorem c_Rk_scoreAt {C : CT} {l : Launch} {S : ShT} {I : DI} {J : DJ} {d : Nat} (hC : OKC C l) (hS : SHP S) {j : Nat} (hj : j < 16) (hd : 0 ≤ d) : Sp C l k_Rk_scoreAt y_Rk_scoreAt (d, 0, 0) [.ref 121, .int (nI j)] S I J (PP (.int (I 123 j)) S I J) := by
  refine Sp.of hC cd_Rk_scoreAt (Nat.le_of_ble_eq_true rfl) ?_
  show V C l k_Rk_scoreAt (d, 0, 0) _ 0 [(0, .ref 121), (1, .int (nI j))] [] S I J (0, 0)
  refine v_aload_n 0 d_Rk_scoreAt_0 rfl rfl rfl ?_
  refine v_getr (r := 123) d_Rk_scoreAt_1 fl_Rk_15 (hS.o (by decide) rfl) rfl (hS.r (by decide) rfl) rfl ?_
  refine v_iload_n 1 d_Rk_scoreAt_4 rfl rfl rfl ?_
  refine v_iald (j := j) d_Rk_scoreAt_5 (hS.a (t := 32) (n := 16) (by decide) rfl) rfl (by omega) (by decide) rfl ?_
  refine v_iret d_Rk_scoreAt_6 rfl ?_
  exact ⟨rfl, rfl, rfl, rfl⟩
set_option maxHeartbeats 4000000 in
set_option maxRecDepth 100000 in
theorem c_Rk_clear {C : CT} {l : Launch} {S : ShT} {I : DI} {J : DJ} {d : Nat} (hC : OKC C l) (hS : SHP S) (hd : 0 ≤ d) : Sp C l k_Rk_clear y_Rk_clear (d, 0, 0) [.ref 121] S I J (PU S J (fun I' => I' = u2 I 121 2 0)) := by
  refine Sp.of hC cd_Rk_clear (Nat.le_of_ble_eq_true rfl) ?_
  show V C l k_Rk_clear (d, 0, 0) _ 0 [(0, .ref 121)] [] S I J (0, 0)
  refine v_aload_n 0 d_Rk_clear_0 rfl rfl rfl ?_
  refine v_iconst (v := 0) d_Rk_clear_1 (by decide) rfl ?_
  refine v_puti d_Rk_clear_2 fl_Rk_18 (hS.o (by decide) rfl) rfl rfl rfl ?_
  generalize hI1 : u2 I 121 2 0 = I1
  refine v_vret d_Rk_clear_5 rfl ?_
  exact ⟨rfl, rfl, rfl, by subst_vars; rfl⟩
set_option maxHeartbeats 4000000 in
set_option maxRecDepth 100000 in
theorem c_En_size {C : CT} {l : Launch} {S : ShT} {I : DI} {J : DJ} {d : Nat} (hC : OKC C l) (hS : SHP S) {i : Nat} (hi : i < 16) (hd : 0 ≤ d) : Sp C l k_En_size y_En_size (d, 0, 0) [.ref (28 + 3 * i)] S I J (PP (.int (I (28 + 3 * i) 2)) S I J) := by
  refine Sp.of hC cd_En_size (Nat.le_of_ble_eq_true rfl) ?_
  show V C l k_En_size (d, 0, 0) _ 0 [(0, .ref (28 + 3 * i))] [] S I J (0, 0)
  refine v_aload_n 0 d_En_size_0 rfl rfl rfl ?_
  refine v_geti d_En_size_1 fl_En_19 (hS.en hi) rfl rfl ?_
  refine v_iret d_En_size_4 rfl ?_
  exact ⟨rfl, rfl, rfl, rfl⟩
set_option maxHeartbeats 4000000 in
set_option maxRecDepth 100000 in
theorem c_En_wordAt {C : CT} {l : Launch} {S : ShT} {I : DI} {J : DJ} {d : Nat} (hC : OKC C l) (hS : SHP S) {i j : Nat} (hi : i < 16) (hj : j < 30) (hd : 0 ≤ d) : Sp C l k_En_wordAt y_En_wordAt (d, 0, 0) [.ref (28 + 3 * i), .int (nI j)] S I J (PP (.long (J (29 + 3 * i) j)) S I J) := by
  refine Sp.of hC cd_En_wordAt (Nat.le_of_ble_eq_true rfl) ?_
  show V C l k_En_wordAt (d, 0, 0) _ 0 [(0, .ref (28 + 3 * i)), (1, .int (nI j))] [] S I J (0, 0)
  refine v_aload_n 0 d_En_wordAt_0 rfl rfl rfl ?_
  refine v_getr (r := (29 + 3 * i)) d_En_wordAt_1 fl_En_11 (hS.en hi) rfl (hS.en0 hi) rfl ?_
  refine v_iload_n 1 d_En_wordAt_4 rfl rfl rfl ?_
  refine v_lald (j := j) d_En_wordAt_5 (hS.enS hi) rfl (by omega) (by decide) rfl ?_
  refine v_lret d_En_wordAt_6 rfl ?_
  exact ⟨rfl, rfl, rfl, rfl⟩
set_option maxHeartbeats 4000000 in
set_option maxRecDepth 100000 in
theorem c_En_weightAt {C : CT} {l : Launch} {S : ShT} {I : DI} {J : DJ} {d : Nat} (hC : OKC C l) (hS : SHP S) {i j : Nat} (hi : i < 16) (hj : j < 30) (hd : 0 ≤ d) : Sp C l k_En_weightAt y_En_weightAt (d, 0, 0) [.ref (28 + 3 * i), .int (nI j)] S I J (PP (.int (I (30 + 3 * i) j)) S I J) := by
  refine Sp.of hC cd_En_weightAt (Nat.le_of_ble_eq_true rfl) ?_
  show V C l k_En_weightAt (d, 0, 0) _ 0 [(0, .ref (28 + 3 * i)), (1, .int (nI j))] [] S I J (0, 0)
  refine v_aload_n 0 d_En_weightAt_0 rfl rfl rfl ?_
  refine v_getr (r := (30 + 3 * i)) d_En_weightAt_1 fl_En_15 (hS.en hi) rfl (hS.en1 hi) rfl ?_
  refine v_iload_n 1 d_En_weightAt_4 rfl rfl rfl ?_
  refine v_iald (j := j) d_En_weightAt_5 (hS.enW hi) rfl (by omega) (by decide) rfl ?_
  refine v_iret d_En_weightAt_6 rfl ?_
  exact ⟨rfl, rfl, rfl, rfl⟩
set_option maxHeartbeats 4000000 in
set_option maxRecDepth 100000 in
theorem c_Tm_isOf {C : CT} {l : Launch} {S : ShT} {I : DI} {J : DJ} {d : Nat} (hC : OKC C l) (hS : SHP S) {i : Nat} (hi : i < 21) (x : Int32) (hd : 0 ≤ d) : Sp C l k_Tm_isOf y_Tm_isOf (d, 0, 0) [.ref (79 + 2 * i), .int x] S I J (PP (.int (bI (decide (I (79 + 2 * i) 2 = x)))) S I J) := by
  refine Sp.of hC cd_Tm_isOf (Nat.le_of_ble_eq_true rfl) ?_
  show V C l k_Tm_isOf (d, 0, 0) _ 0 [(0, .ref (79 + 2 * i)), (1, .int x)] [] S I J (0, 0)
  refine v_aload_n 0 d_Tm_isOf_0 rfl rfl rfl ?_
  refine v_geti d_Tm_isOf_1 fl_Tm_19 (hS.tm hi) rfl rfl ?_
  refine v_iload_n 1 d_Tm_isOf_4 rfl rfl rfl ?_
  refine v_icmp_ne (tgt := 12) d_Tm_isOf_5 (by decide) rfl (fun c1 => ?_) (fun c1 => ?_)
  · refine v_iconst (v := 0) d_Tm_isOf_12 (by decide) rfl ?_
    refine v_zret d_Tm_isOf_13 rfl (Or.inl rfl) ?_
    exact ⟨by simp_all [bI], rfl, rfl, rfl⟩
  · refine v_iconst (v := 1) d_Tm_isOf_8 (by decide) rfl ?_
    refine v_goto (tgt := 13) d_Tm_isOf_9 (by decide) ?_
    refine v_zret d_Tm_isOf_13 rfl (Or.inr rfl) ?_
    exact ⟨by simp_all [bI], rfl, rfl, rfl⟩
set_option maxHeartbeats 4000000 in
set_option maxRecDepth 100000 in
theorem c_Tm_isUnwanted {C : CT} {l : Launch} {S : ShT} {I : DI} {J : DJ} {d : Nat} (hC : OKC C l) (hS : SHP S) {i : Nat} (hi : i < 21) (hb : I (79 + 2 * i) 3 = 0 ∨ I (79 + 2 * i) 3 = 1) (hd : 0 ≤ d) : Sp C l k_Tm_isUnwanted y_Tm_isUnwanted (d, 0, 0) [.ref (79 + 2 * i)] S I J (PP (.int (I (79 + 2 * i) 3)) S I J) := by
  refine Sp.of hC cd_Tm_isUnwanted (Nat.le_of_ble_eq_true rfl) ?_
  show V C l k_Tm_isUnwanted (d, 0, 0) _ 0 [(0, .ref (79 + 2 * i))] [] S I J (0, 0)
  refine v_aload_n 0 d_Tm_isUnwanted_0 rfl rfl rfl ?_
  refine v_geti d_Tm_isUnwanted_1 fl_Tm_22 (hS.tm hi) rfl rfl ?_
  refine v_zret d_Tm_isUnwanted_4 rfl (by first | exact bI01 _ | assumption) ?_
  exact ⟨rfl, rfl, rfl, rfl⟩
set_option maxHeartbeats 4000000 in
set_option maxRecDepth 100000 in
theorem c_Tm_isEmpty {C : CT} {l : Launch} {S : ShT} {I : DI} {J : DJ} {d : Nat} (hC : OKC C l) (hS : SHP S) {i : Nat} (hi : i < 21) (hd : 0 ≤ d) : Sp C l k_Tm_isEmpty y_Tm_isEmpty (d, 0, 0) [.ref (79 + 2 * i)] S I J (PP (.int (bI (decide (I (79 + 2 * i) 1 = 0)))) S I J) := by
  refine Sp.of hC cd_Tm_isEmpty (Nat.le_of_ble_eq_true rfl) ?_
  show V C l k_Tm_isEmpty (d, 0, 0) _ 0 [(0, .ref (79 + 2 * i))] [] S I J (0, 0)
  refine v_aload_n 0 d_Tm_isEmpty_0 rfl rfl rfl ?_
  refine v_geti d_Tm_isEmpty_1 fl_Tm_15 (hS.tm hi) rfl rfl ?_
  refine v_if_ne (tgt := 11) d_Tm_isEmpty_4 (by decide) rfl (fun c1 => ?_) (fun c1 => ?_)
  · refine v_iconst (v := 0) d_Tm_isEmpty_11 (by decide) rfl ?_
    refine v_zret d_Tm_isEmpty_12 rfl (Or.inl rfl) ?_
    exact ⟨by simp_all [bI], rfl, rfl, rfl⟩
  · refine v_iconst (v := 1) d_Tm_isEmpty_7 (by decide) rfl ?_
    refine v_goto (tgt := 12) d_Tm_isEmpty_8 (by decide) ?_
    refine v_zret d_Tm_isEmpty_12 rfl (Or.inr rfl) ?_
    exact ⟨by simp_all [bI], rfl, rfl, rfl⟩
set_option maxHeartbeats 4000000 in
set_option maxRecDepth 100000 in
theorem c_Tm_forbid {C : CT} {l : Launch} {S : ShT} {I : DI} {J : DJ} {d : Nat} (hC : OKC C l) (hS : SHP S) {i : Nat} (hi : i < 21) (hd : 0 ≤ d) : Sp C l k_Tm_forbid y_Tm_forbid (d, 0, 0) [.ref (79 + 2 * i)] S I J (PU S J (fun I' => I' = u2 I (79 + 2 * i) 3 1)) := by
  refine Sp.of hC cd_Tm_forbid (Nat.le_of_ble_eq_true rfl) ?_
  show V C l k_Tm_forbid (d, 0, 0) _ 0 [(0, .ref (79 + 2 * i))] [] S I J (0, 0)
  refine v_aload_n 0 d_Tm_forbid_0 rfl rfl rfl ?_
  refine v_iconst (v := 1) d_Tm_forbid_1 (by decide) rfl ?_
  refine v_putz d_Tm_forbid_2 fl_Tm_22 (hS.tm hi) rfl rfl (Or.inr rfl) rfl ?_
  generalize hI1 : u2 I (79 + 2 * i) 3 1 = I1
  refine v_vret d_Tm_forbid_5 rfl ?_
  exact ⟨rfl, rfl, rfl, by subst_vars; rfl⟩
set_option maxHeartbeats 4000000 in
set_option maxRecDepth 100000 in
theorem c_Tm_begin {C : CT} {l : Launch} {S : ShT} {I : DI} {J : DJ} {d : Nat} (hC : OKC C l) (hS : SHP S) {i : Nat} (hi : i < 21) (x : Int32) (hd : 0 ≤ d) : Sp C l k_Tm_begin y_Tm_begin (d, 0, 0) [.ref (79 + 2 * i), .int x] S I J (PW S (fun I' J' => I' = u2 (u2 (u2 I (79 + 2 * i) 1 0) (79 + 2 * i) 2 x) (79 + 2 * i) 3 0 ∧ J' = u2 J (79 + 2 * i) 4 (-1))) := by
  refine Sp.of hC cd_Tm_begin (Nat.le_of_ble_eq_true rfl) ?_
  show V C l k_Tm_begin (d, 0, 0) _ 0 [(0, .ref (79 + 2 * i)), (1, .int x)] [] S I J (0, 0)
  refine v_aload_n 0 d_Tm_begin_0 rfl rfl rfl ?_
  refine v_iconst (v := 0) d_Tm_begin_1 (by decide) rfl ?_
  refine v_puti d_Tm_begin_2 fl_Tm_15 (hS.tm hi) rfl rfl rfl ?_
  generalize hI1 : u2 I (79 + 2 * i) 1 0 = I1
  refine v_aload_n 0 d_Tm_begin_5 rfl rfl rfl ?_
  refine v_iload_n 1 d_Tm_begin_6 rfl rfl rfl ?_
  refine v_puti d_Tm_begin_7 fl_Tm_19 (hS.tm hi) rfl rfl rfl ?_
  generalize hI2 : u2 I1 (79 + 2 * i) 2 x = I2
  refine v_aload_n 0 d_Tm_begin_10 rfl rfl rfl ?_
  refine v_iconst (v := 0) d_Tm_begin_11 (by decide) rfl ?_
  refine v_putz d_Tm_begin_12 fl_Tm_22 (hS.tm hi) rfl rfl (Or.inl rfl) rfl ?_
  generalize hI3 : u2 I2 (79 + 2 * i) 3 0 = I3
  refine v_aload_n 0 d_Tm_begin_15 rfl rfl rfl ?_
  refine v_ldc2 (v := (-1)) d_Tm_begin_16 wk_Tm_26 rfl ?_
  refine v_putl d_Tm_begin_19 fl_Tm_28 (hS.tm hi) rfl rfl rfl ?_
  generalize hJ4 : u2 J (79 + 2 * i) 4 (-1) = J4
  refine v_vret d_Tm_begin_22 rfl ?_
  exact ⟨rfl, rfl, by subst_vars; rfl, by subst_vars; rfl⟩
set_option maxHeartbeats 4000000 in
set_option maxRecDepth 100000 in
theorem c_Tm_add {C : CT} {l : Launch} {S : ShT} {I : DI} {J : DJ} {d : Nat} (hC : OKC C l) (hS : SHP S) {i n : Nat} (hi : i < 21) (hn : I (79 + 2 * i) 1 = nI n) (hn4 : n < 4) (x : Int64) (hd : 0 ≤ d) : Sp C l k_Tm_add y_Tm_add (d, 0, 0) [.ref (79 + 2 * i), .long x] S I J (PW S (fun I' J' => I' = u2 I (79 + 2 * i) 1 (nI (n + 1)) ∧ J' = u2 J (80 + 2 * i) n x)) := by
  refine Sp.of hC cd_Tm_add (Nat.le_of_ble_eq_true rfl) ?_
  show V C l k_Tm_add (d, 0, 0) _ 0 [(0, .ref (79 + 2 * i)), (1, .long x)] [] S I J (0, 0)
  refine v_aload_n 0 d_Tm_add_0 rfl rfl rfl ?_
  refine v_getr (r := (80 + 2 * i)) d_Tm_add_1 fl_Tm_9 (hS.tm hi) rfl (hS.tm0 hi) rfl ?_
  refine v_aload_n 0 d_Tm_add_4 rfl rfl rfl ?_
  refine v_geti d_Tm_add_5 fl_Tm_15 (hS.tm hi) rfl rfl ?_
  refine v_lload_n 1 d_Tm_add_8 rfl rfl rfl ?_
  refine v_last (j := n) d_Tm_add_9 (hS.tmS hi) hn (by omega) (by decide) rfl ?_
  generalize hJ1 : u2 J ((80 + 2 * i)) n x = J1
  refine v_aload_n 0 d_Tm_add_10 rfl rfl rfl ?_
  refine v_dup d_Tm_add_11 rfl rfl ?_
  refine v_geti d_Tm_add_12 fl_Tm_15 (hS.tm hi) rfl rfl ?_
  refine v_iconst (v := 1) d_Tm_add_15 (by decide) rfl ?_
  refine v_iadd d_Tm_add_16 rfl ?_
  refine v_nmi (fun z2 ez2 => ?_)
  have nz2 : z2 = nI (n + 1) := by rw [ez2, show I (79 + 2 * i) 1 = nI n from hn, show 1 = nI 1 from rfl]; exact nI_add _ _
  refine v_puti d_Tm_add_17 fl_Tm_15 (hS.tm hi) rfl rfl rfl ?_
  generalize hI3 : u2 I (79 + 2 * i) 1 z2 = I3
  refine v_vret d_Tm_add_20 rfl ?_
  exact ⟨rfl, rfl, by subst_vars; simp only [hn, nI_1], by subst_vars; rfl⟩
set_option maxHeartbeats 4000000 in
set_option maxRecDepth 100000 in
theorem c_Tm_compareOnly {C : CT} {l : Launch} {S : ShT} {I : DI} {J : DJ} {d : Nat} (hC : OKC C l) (hS : SHP S) {i : Nat} (hi : i < 21) (x : Int32) (hd : 0 ≤ d) : Sp C l k_Tm_compareOnly y_Tm_compareOnly (d, 0, 0) [.ref (79 + 2 * i), .int x] S I J (PW S (fun I' J' => I' = I ∧ J' = u2 J (79 + 2 * i) 4 ((-1) <<< ((8 * (8 - x)).toInt64 &&& 63)))) := by
  refine Sp.of hC cd_Tm_compareOnly (Nat.le_of_ble_eq_true rfl) ?_
  show V C l k_Tm_compareOnly (d, 0, 0) _ 0 [(0, .ref (79 + 2 * i)), (1, .int x)] [] S I J (0, 0)
  refine v_aload_n 0 d_Tm_compareOnly_0 rfl rfl rfl ?_
  refine v_ldc2 (v := (-1)) d_Tm_compareOnly_1 wk_Tm_26 rfl ?_
  refine v_bipush (v := 8) d_Tm_compareOnly_4 (by decide) rfl ?_
  refine v_bipush (v := 8) d_Tm_compareOnly_6 (by decide) rfl ?_
  refine v_iload_n 1 d_Tm_compareOnly_8 rfl rfl rfl ?_
  refine v_isub d_Tm_compareOnly_9 rfl ?_
  refine v_nmi (fun z1 ez1 => ?_)
  refine v_imul d_Tm_compareOnly_10 rfl ?_
  refine v_nmi (fun z2 ez2 => ?_)
  refine v_lshl d_Tm_compareOnly_11 rfl rfl ?_
  refine v_nml (fun z3 ez3 => ?_)
  refine v_putl d_Tm_compareOnly_12 fl_Tm_28 (hS.tm hi) rfl rfl rfl ?_
  generalize hJ4 : u2 J (79 + 2 * i) 4 z3 = J4
  refine v_vret d_Tm_compareOnly_15 rfl ?_
  exact ⟨rfl, rfl, rfl, by subst_vars; rfl⟩
set_option maxHeartbeats 4000000 in
set_option maxRecDepth 100000 in
theorem c_En_add {C : CT} {l : Launch} {S : ShT} {I : DI} {J : DJ} {d : Nat} (hC : OKC C l) (hS : SHP S) {i n : Nat} (hi : i < 16) (hn : I (28 + 3 * i) 2 = nI n) (hn3 : n < 30) (x : Int64) (y : Int32) (hd : 0 ≤ d) : Sp C l k_En_add y_En_add (d, 0, 0) [.ref (28 + 3 * i), .long x, .int y] S I J (PW S (fun I' J' => I' = u2 (u2 I (30 + 3 * i) n y) (28 + 3 * i) 2 (nI (n + 1)) ∧ J' = u2 J (29 + 3 * i) n x)) := by
  refine Sp.of hC cd_En_add (Nat.le_of_ble_eq_true rfl) ?_
  show V C l k_En_add (d, 0, 0) _ 0 [(0, .ref (28 + 3 * i)), (1, .long x), (3, .int y)] [] S I J (0, 0)
  refine v_aload_n 0 d_En_add_0 rfl rfl rfl ?_
  refine v_getr (r := (29 + 3 * i)) d_En_add_1 fl_En_11 (hS.en hi) rfl (hS.en0 hi) rfl ?_
  refine v_aload_n 0 d_En_add_4 rfl rfl rfl ?_
  refine v_geti d_En_add_5 fl_En_19 (hS.en hi) rfl rfl ?_
  refine v_lload_n 1 d_En_add_8 rfl rfl rfl ?_
  refine v_last (j := n) d_En_add_9 (hS.enS hi) hn (by omega) (by decide) rfl ?_
  generalize hJ1 : u2 J ((29 + 3 * i)) n x = J1
  refine v_aload_n 0 d_En_add_10 rfl rfl rfl ?_
  refine v_getr (r := (30 + 3 * i)) d_En_add_11 fl_En_15 (hS.en hi) rfl (hS.en1 hi) rfl ?_
  refine v_aload_n 0 d_En_add_14 rfl rfl rfl ?_
  refine v_geti d_En_add_15 fl_En_19 (hS.en hi) rfl rfl ?_
  refine v_iload_n 2 d_En_add_18 rfl rfl rfl ?_
  refine v_iast (j := n) d_En_add_19 (hS.enW hi) hn (by omega) (by decide) rfl ?_
  generalize hI2 : u2 I ((30 + 3 * i)) n y = I2
  refine v_aload_n 0 d_En_add_20 rfl rfl rfl ?_
  refine v_dup d_En_add_21 rfl rfl ?_
  refine v_geti d_En_add_22 fl_En_19 (hS.en hi) rfl rfl ?_
  refine v_iconst (v := 1) d_En_add_25 (by decide) rfl ?_
  refine v_iadd d_En_add_26 rfl ?_
  refine v_nmi (fun z3 ez3 => ?_)
  refine v_puti d_En_add_27 fl_En_19 (hS.en hi) rfl rfl rfl ?_
  generalize hI4 : u2 I2 (28 + 3 * i) 2 z3 = I4
  refine v_vret d_En_add_30 rfl ?_
  exact ⟨rfl, rfl, by subst_vars; simp only [u2_n (show (28 + 3 * i) ≠ (30 + 3 * i) ∨ 2 ≠ n by omega), hn, nI_1], by subst_vars; rfl⟩
set_option maxHeartbeats 4000000 in
set_option maxRecDepth 100000 in
theorem c_Qy_length {C : CT} {l : Launch} {S : ShT} {I : DI} {J : DJ} {d : Nat} (hC : OKC C l) (hS : SHP S) (hd : 0 ≤ d) : Sp C l k_Qy_length y_Qy_length (d, 0, 0) [.ref 76] S I J (PP (.int (I 76 1)) S I J) := by
  refine Sp.of hC cd_Qy_length (Nat.le_of_ble_eq_true rfl) ?_
  show V C l k_Qy_length (d, 0, 0) _ 0 [(0, .ref 76)] [] S I J (0, 0)
  refine v_aload_n 0 d_Qy_length_0 rfl rfl rfl ?_
  refine v_geti d_Qy_length_1 fl_Qy_22 (hS.o (by decide) rfl) rfl rfl ?_
  refine v_iret d_Qy_length_4 rfl ?_
  exact ⟨rfl, rfl, rfl, rfl⟩
set_option maxHeartbeats 4000000 in
set_option maxRecDepth 100000 in
theorem c_Qy_clearText {C : CT} {l : Launch} {S : ShT} {I : DI} {J : DJ} {d : Nat} (hC : OKC C l) (hS : SHP S) (hd : 0 ≤ d) : Sp C l k_Qy_clearText y_Qy_clearText (d, 0, 0) [.ref 76] S I J (PU S J (fun I' => I' = u2 I 76 1 0)) := by
  refine Sp.of hC cd_Qy_clearText (Nat.le_of_ble_eq_true rfl) ?_
  show V C l k_Qy_clearText (d, 0, 0) _ 0 [(0, .ref 76)] [] S I J (0, 0)
  refine v_aload_n 0 d_Qy_clearText_0 rfl rfl rfl ?_
  refine v_iconst (v := 0) d_Qy_clearText_1 (by decide) rfl ?_
  refine v_puti d_Qy_clearText_2 fl_Qy_22 (hS.o (by decide) rfl) rfl rfl rfl ?_
  generalize hI1 : u2 I 76 1 0 = I1
  refine v_vret d_Qy_clearText_5 rfl ?_
  exact ⟨rfl, rfl, rfl, by subst_vars; rfl⟩
set_option maxHeartbeats 4000000 in
set_option maxRecDepth 100000 in
theorem c_Qy_append {C : CT} {l : Launch} {S : ShT} {I : DI} {J : DJ} {d : Nat} (hC : OKC C l) (hS : SHP S) {n : Nat} (hn : I 76 1 = nI n) (hn4 : n < 40) (x : Int32) (hd : 0 ≤ d) : Sp C l k_Qy_append y_Qy_append (d, 0, 0) [.ref 76, .int x] S I J (PU S J (fun I' => I' = u2 (u2 I 77 n x) 76 1 (nI (n + 1)))) := by
  refine Sp.of hC cd_Qy_append (Nat.le_of_ble_eq_true rfl) ?_
  show V C l k_Qy_append (d, 0, 0) _ 0 [(0, .ref 76), (1, .int x)] [] S I J (0, 0)
  refine v_aload_n 0 d_Qy_append_0 rfl rfl rfl ?_
  refine v_getr (r := 77) d_Qy_append_1 fl_Qy_9 (hS.o (by decide) rfl) rfl (hS.r (by decide) rfl) rfl ?_
  refine v_aload_n 0 d_Qy_append_4 rfl rfl rfl ?_
  refine v_geti d_Qy_append_5 fl_Qy_22 (hS.o (by decide) rfl) rfl rfl ?_
  refine v_iload_n 1 d_Qy_append_8 rfl rfl rfl ?_
  refine v_iast (j := n) d_Qy_append_9 (hS.a (t := 32) (n := 40) (by decide) rfl) hn (by omega) (by decide) rfl ?_
  generalize hI1 : u2 I 77 n x = I1
  refine v_aload_n 0 d_Qy_append_10 rfl rfl rfl ?_
  refine v_dup d_Qy_append_11 rfl rfl ?_
  refine v_geti d_Qy_append_12 fl_Qy_22 (hS.o (by decide) rfl) rfl rfl ?_
  refine v_iconst (v := 1) d_Qy_append_15 (by decide) rfl ?_
  refine v_iadd d_Qy_append_16 rfl ?_
  refine v_nmi (fun z2 ez2 => ?_)
  refine v_puti d_Qy_append_17 fl_Qy_22 (hS.o (by decide) rfl) rfl rfl rfl ?_
  generalize hI3 : u2 I1 76 1 z2 = I3
  refine v_vret d_Qy_append_20 rfl ?_
  exact ⟨rfl, rfl, rfl, by subst_vars; simp only [u2_n (show (76 : Nat) ≠ 77 ∨ 1 ≠ n by omega), hn, nI_1]⟩
set_option maxHeartbeats 4000000 in
set_option maxRecDepth 100000 in
theorem c_Qy_isFaulty {C : CT} {l : Launch} {S : ShT} {I : DI} {J : DJ} {d : Nat} (hC : OKC C l) (hS : SHP S) (hd : 0 ≤ d) : Sp C l k_Qy_isFaulty y_Qy_isFaulty (d, 0, 0) [.ref 76] S I J (PP (.int (bI (!decide (I 76 6 = -1)))) S I J) := by
  refine Sp.of hC cd_Qy_isFaulty (Nat.le_of_ble_eq_true rfl) ?_
  show V C l k_Qy_isFaulty (d, 0, 0) _ 0 [(0, .ref 76)] [] S I J (0, 0)
  refine v_aload_n 0 d_Qy_isFaulty_0 rfl rfl rfl ?_
  refine v_geti d_Qy_isFaulty_1 fl_Qy_29 (hS.o (by decide) rfl) rfl rfl ?_
  refine v_iconst (v := (-1)) d_Qy_isFaulty_4 (by decide) rfl ?_
  refine v_icmp_eq (tgt := 12) d_Qy_isFaulty_5 (by decide) rfl (fun c1 => ?_) (fun c1 => ?_)
  · refine v_iconst (v := 0) d_Qy_isFaulty_12 (by decide) rfl ?_
    refine v_zret d_Qy_isFaulty_13 rfl (Or.inl rfl) ?_
    exact ⟨by simp_all [bI], rfl, rfl, rfl⟩
  · refine v_iconst (v := 1) d_Qy_isFaulty_8 (by decide) rfl ?_
    refine v_goto (tgt := 13) d_Qy_isFaulty_9 (by decide) ?_
    refine v_zret d_Qy_isFaulty_13 rfl (Or.inr rfl) ?_
    exact ⟨by simp_all [bI], rfl, rfl, rfl⟩
end
section
/-- the places from p on to i have taken their right neighbours' values -/
def shf (f : Nat → Int32) (p i : Nat) : Nat → Int32 := fun j => if p ≤ j ∧ j < i then f (j + 1) else f j
theorem shf_0 {f : Nat → Int32} {p : Nat} : shf f p p = f := by
  funext j
  unfold shf
  rw [if_neg (by omega)]
theorem shf_s {f : Nat → Int32} {p i : Nat} (h : p ≤ i) : shf f p (i + 1) = fun j => if j = i then f (i + 1) else shf f p i j := by
  funext j
  unfold shf
  by_cases hj : j = i
  · subst hj
    rw [if_pos (by omega), if_pos rfl]
  · rw [if_neg hj]
    by_cases h1 : p ≤ j ∧ j < i
    · rw [if_pos h1, if_pos (by omega)]
    · rw [if_neg h1, if_neg (by omega)]
theorem u2_row {f : DI} {a k : Nat} {x : Int32} : u2 f a k x a = fun j => if j = k then x else f a j := by
  funext j
  simp [u2]
/-- what a drop at p of a queue of m + 1 leaves -/
def Dq (I0 : DI) (p m : Nat) (I : DI) : Prop := I 22 2 = nI m ∧ (∀ j, j ≠ 2 → I 22 j = I0 22 j) ∧ I 23 = shf (I0 23) p m ∧ I 24 = shf (I0 24) p m ∧ ∀ b, b ≠ 22 → b ≠ 23 → b ≠ 24 → I b = I0 b
set_option maxHeartbeats 4000000 in
set_option maxRecDepth 100000 in
theorem lp_Qu_drop {C : CT} {l : Launch} {S : ShT} {d : Nat} (hC : OKC C l) (hS : SHP S) (hd : 0 ≤ d) {I0 : DI} {J : DJ} {p m : Nat} (hm : m < 8) : ∀ (n : Nat) (i : Nat) (I : DI) (x : Int32), x = nI i → p ≤ i → i ≤ m → m < i + n → I 22 2 = nI m → (∀ j, j ≠ 2 → I 22 j = I0 22 j) → I 23 = shf (I0 23) p i → I 24 = shf (I0 24) p i → (∀ b, b ≠ 22 → b ≠ 23 → b ≠ 24 → I b = I0 b) → V C l k_Qu_drop (d, 0, 0) (PU S J (Dq I0 p m)) 12 [(2, .int x), (0, .ref 22), (1, .int (nI p))] [] S I J (0, 0) := by
  intro n
  induction n with
  | zero =>
    intro i I x ex hpi him hf h2 h3 h4 h5 h6
    omega
  | succ n ih =>
    intro i I x ex hpi him hf h2 h3 h4 h5 h6
    refine v_iload_n 0 d_Qu_drop_12 rfl rfl rfl ?_
    refine v_aload_n 1 d_Qu_drop_13 rfl rfl rfl ?_
    refine v_geti d_Qu_drop_14 fl_Qu_18 (hS.o (by decide) rfl) rfl rfl ?_
    refine v_icmp_ge (tgt := 54) d_Qu_drop_17 (by decide) rfl (fun c1 => ?_) (fun c1 => ?_)
    · refine v_vret d_Qu_drop_54 rfl ?_
      have him : i = m := by rcases Nat.lt_or_ge i m with h9 | h9; exact absurd c1 (by rw [h2, ex]; exact nI_ge h9 (by omega)); omega
      subst him
      exact ⟨rfl, rfl, rfl, h2, h3, h4, h5, h6⟩
    · have hlt : i < m := by rcases Nat.lt_or_ge i m with h9 | h9; exact h9; exact absurd (by rw [h2, ex]; exact nI_le h9 (by omega)) c1
      refine v_aload_n 1 d_Qu_drop_20 rfl rfl rfl ?_
      refine v_getr (r := 23) d_Qu_drop_21 fl_Qu_9 (hS.o (by decide) rfl) rfl (hS.r (by decide) rfl) rfl ?_
      refine v_iload_n 0 d_Qu_drop_24 rfl rfl rfl ?_
      refine v_aload_n 1 d_Qu_drop_25 rfl rfl rfl ?_
      refine v_getr (r := 23) d_Qu_drop_26 fl_Qu_9 (hS.o (by decide) rfl) rfl (hS.r (by decide) rfl) rfl ?_
      refine v_iload_n 0 d_Qu_drop_29 rfl rfl rfl ?_
      refine v_iconst (v := 1) d_Qu_drop_30 (by decide) rfl ?_
      refine v_iadd d_Qu_drop_31 rfl ?_
      refine v_nmi (fun z2 ez2 => ?_)
      have nz2 : z2 = nI (i + 1) := by rw [ez2, show x = nI i from ex, show 1 = nI 1 from rfl]; exact nI_add _ _
      refine v_iald (j := (i + 1)) d_Qu_drop_32 (hS.a (t := 32) (n := 8) (by decide) rfl) nz2 (by omega) (by decide) rfl ?_
      refine v_iast (j := i) d_Qu_drop_33 (hS.a (t := 32) (n := 8) (by decide) rfl) ex (by omega) (by decide) rfl ?_
      generalize hI3 : u2 I 23 i (I 23 (i + 1)) = I3
      refine v_aload_n 1 d_Qu_drop_34 rfl rfl rfl ?_
      refine v_getr (r := 24) d_Qu_drop_35 fl_Qu_15 (hS.o (by decide) rfl) rfl (hS.r (by decide) rfl) rfl ?_
      refine v_iload_n 0 d_Qu_drop_38 rfl rfl rfl ?_
      refine v_aload_n 1 d_Qu_drop_39 rfl rfl rfl ?_
      refine v_getr (r := 24) d_Qu_drop_40 fl_Qu_15 (hS.o (by decide) rfl) rfl (hS.r (by decide) rfl) rfl ?_
      refine v_iload_n 0 d_Qu_drop_43 rfl rfl rfl ?_
      refine v_iconst (v := 1) d_Qu_drop_44 (by decide) rfl ?_
      refine v_iadd d_Qu_drop_45 rfl ?_
      refine v_nmi (fun z4 ez4 => ?_)
      have nz4 : z4 = nI (i + 1) := by rw [ez4, show x = nI i from ex, show 1 = nI 1 from rfl]; exact nI_add _ _
      refine v_iald (j := (i + 1)) d_Qu_drop_46 (hS.a (t := 32) (n := 8) (by decide) rfl) nz4 (by omega) (by decide) rfl ?_
      refine v_iast (j := i) d_Qu_drop_47 (hS.a (t := 32) (n := 8) (by decide) rfl) ex (by omega) (by decide) rfl ?_
      generalize hI5 : u2 I3 24 i (I3 24 (i + 1)) = I5
      obtain ⟨x6, ex6⟩ : ∃ y : Int32, y = x + 1 := ⟨_, rfl⟩
      have nx6 : x6 = nI (i + 1) := by rw [ex6, ex]; exact nI_1 _
      refine v_iinc (n := 0) (v := x6) (L' := [(2, .int x6), (0, .ref 22), (1, .int (nI p))]) d_Qu_drop_48 rfl (by rw [ex6]; rfl) (by decide) rfl rfl ?_
      refine v_goto (tgt := 12) d_Qu_drop_51 (by decide) ?_
      refine ih _ I5 _ nx6 (by omega) (by omega) (by omega) ?_ ?_ ?_ ?_ ?_
      · subst_vars; rw [u2_n (by omega), u2_n (by omega)]; exact h2
      · intro j hj; subst_vars; rw [u2_n (by omega), u2_n (by omega)]; exact h3 j hj
      · subst_vars; rw [u2_o (by decide), u2_row, shf_s hpi, h4]; funext j; by_cases hj : j = i
        · rw [if_pos hj, if_pos hj]; unfold shf; rw [if_neg (by omega)]
        · rw [if_neg hj, if_neg hj]
      · subst_vars; rw [u2_row, shf_s hpi, u2_o (by decide), h5]; funext j; by_cases hj : j = i
        · rw [if_pos hj, if_pos hj]; unfold shf; rw [if_neg (by omega)]
        · rw [if_neg hj, if_neg hj]
      · intro b b1 b2 b3; subst_vars; rw [u2_o b3, u2_o b2]; exact h6 b b1 b2 b3
set_option maxHeartbeats 4000000 in
set_option maxRecDepth 100000 in
theorem c_Qu_drop {C : CT} {l : Launch} {S : ShT} {I : DI} {J : DJ} {d : Nat} (hC : OKC C l) (hS : SHP S) {p m : Nat} (hm : m < 8) (hp : p ≤ m) (h2 : I 22 2 = nI (m + 1)) (hd : 0 ≤ d) : Sp C l k_Qu_drop y_Qu_drop (d, 0, 0) [.ref 22, .int (nI p)] S I J (PU S J (Dq I p m)) := by
  refine Sp.of hC cd_Qu_drop (Nat.le_of_ble_eq_true rfl) ?_
  show V C l k_Qu_drop (d, 0, 0) _ 0 [(0, .ref 22), (1, .int (nI p))] [] S I J (0, 0)
  refine v_aload_n 0 d_Qu_drop_0 rfl rfl rfl ?_
  refine v_dup d_Qu_drop_1 rfl rfl ?_
  refine v_geti d_Qu_drop_2 fl_Qu_18 (hS.o (by decide) rfl) rfl rfl ?_
  refine v_iconst (v := 1) d_Qu_drop_5 (by decide) rfl ?_
  refine v_isub d_Qu_drop_6 rfl ?_
  refine v_nmi (fun z1 ez1 => ?_)
  have nz1 : z1 = nI ((m + 1) - 1) := by rw [ez1, show I 22 2 = nI (m + 1) from h2, show 1 = nI 1 from rfl]; exact pk_sub (by omega)
  refine v_puti d_Qu_drop_7 fl_Qu_18 (hS.o (by decide) rfl) rfl rfl rfl ?_
  generalize hI2 : u2 I 22 2 z1 = I2
  refine v_iload_n 1 d_Qu_drop_10 rfl rfl rfl ?_
  refine v_istore_n (L' := [(2, .int (nI p)), (0, .ref 22), (1, .int (nI p))]) d_Qu_drop_11 rfl (by decide) rfl rfl ?_
  exact lp_Qu_drop hC hS hd hm (m + 1) p I2 _ rfl (Nat.le_refl _) hp (by omega) (by rw [← hI2, u2_s, nz1]; rfl) (fun j hj => by rw [← hI2, u2_n (Or.inr hj)]) (by rw [← hI2, u2_o (by decide), shf_0]) (by rw [← hI2, u2_o (by decide), shf_0]) (fun b b1 b2 b3 => by rw [← hI2, u2_o b1])
end
section
/-- the first place from i on, of k places, that holds x; the one behind them if none does -/
def plc (f : Nat → Int32) (x : Int32) : Nat → Nat → Nat
  | i, 0 => i
  | i, k + 1 => if f i = x then i else plc f x (i + 1) k
theorem plc_s (f : Nat → Int32) (x : Int32) (i k : Nat) : plc f x i (k + 1) = if f i = x then i else plc f x (i + 1) k := rfl
theorem u2_id {α : Type} {f : Nat → Nat → α} {a k : Nat} {x : α} (h : f a k = x) : f = u2 f a k x := by
  funext b j
  unfold u2
  by_cases hb : b = a ∧ j = k
  · rw [if_pos hb, hb.1, hb.2]; exact h
  · rw [if_neg hb]
theorem plc_le (f : Nat → Int32) (x : Int32) : ∀ k i, i ≤ plc f x i k ∧ plc f x i k ≤ i + k
  | 0, i => ⟨Nat.le_refl _, Nat.le_refl _⟩
  | k + 1, i => by
    unfold plc
    have h := plc_le f x k (i + 1)
    by_cases hx : f i = x
    · rw [if_pos hx]; omega
    · rw [if_neg hx]; omega
theorem plc_at (f : Nat → Int32) (x : Int32) : ∀ k i, plc f x i k < i + k → f (plc f x i k) = x
  | 0, i, h => absurd h (by unfold plc; omega)
  | k + 1, i, h => by
    unfold plc at h ⊢
    by_cases hx : f i = x
    · rw [if_pos hx] at h ⊢; exact hx
    · rw [if_neg hx] at h ⊢; exact plc_at f x k (i + 1) (by omega)
theorem plc_eq {f g : Nat → Int32} (x : Int32) : ∀ k i, (∀ j, i ≤ j → j < i + k → f j = g j) → plc f x i k = plc g x i k
  | 0, i, _ => rfl
  | k + 1, i, h => by
    unfold plc
    rw [h i (Nat.le_refl _) (by omega), plc_eq x k (i + 1) (fun j h1 h2 => h j (by omega) (by omega))]
def tgt (a k : Int32) : Int32 := if a = 2 ∧ k = 3 then 3 else if a = 3 ∧ k = 1 then 2 else a
/-- an event of the kind k is told for the file x: the queue before (lost, how many, kinds, files), behind -/
def TQ (l : Int32) (n : Nat) (f g : Nat → Int32) (x k : Int32) (l' : Int32) (n' : Nat) (f' g' : Nat → Int32) : Prop :=
  (¬ l = 0 → l' = l ∧ n' = n ∧ ∀ j, j < n → f' j = f j ∧ g' j = g j) ∧
  (l = 0 → plc g x 0 n < n → f (plc g x 0 n) = 1 ∧ k = 3 → l' = l ∧ n' = n - 1 ∧ ∀ j, j < n - 1 → f' j = shf f (plc g x 0 n) (n - 1) j ∧ g' j = shf g (plc g x 0 n) (n - 1) j) ∧
  (l = 0 → plc g x 0 n < n → ¬ (f (plc g x 0 n) = 1 ∧ k = 3) → l' = l ∧ n' = n ∧ ∀ j, j < n → g' j = g j ∧ f' j = if j = plc g x 0 n then tgt (f j) k else f j) ∧
  (l = 0 → ¬ plc g x 0 n < n → n < 8 → l' = l ∧ n' = n + 1 ∧ f' n = k ∧ g' n = x ∧ ∀ j, j < n → f' j = f j ∧ g' j = g j) ∧
  (l = 0 → ¬ plc g x 0 n < n → ¬ n < 8 → l' = 1 ∧ n' = 0)
set_option maxHeartbeats 4000000 in
set_option maxRecDepth 100000 in
theorem lp_Qu_placeOf {C : CT} {l : Launch} {S : ShT} {d : Nat} (hC : OKC C l) (hS : SHP S) (hd : 0 ≤ d) {I : DI} {J : DJ} {y : Int32} {m : Nat} (hm : m ≤ 8) (h2 : I 22 2 = nI m) : ∀ (n : Nat) (i : Nat) (x : Int32), x = nI i → i ≤ m → m < i + n → plc (I 24) y 0 m = plc (I 24) y i (m - i) → V C l k_Qu_placeOf (d, 0, 0) (PP (.int (nI (plc (I 24) y 0 m))) S I J) 2 [(2, .int x), (0, .ref 22), (1, .int y)] [] S I J (0, 0) := by
  intro n
  induction n with
  | zero =>
    intro i x ex him hf hi0
    omega
  | succ n ih =>
    intro i x ex him hf hi0
    refine v_iload_n 0 d_Qu_placeOf_2 rfl rfl rfl ?_
    refine v_aload_n 1 d_Qu_placeOf_3 rfl rfl rfl ?_
    refine v_geti d_Qu_placeOf_4 fl_Qu_18 (hS.o (by decide) rfl) rfl rfl ?_
    refine v_icmp_ge (tgt := 28) d_Qu_placeOf_7 (by decide) rfl (fun c1 => ?_) (fun c1 => ?_)
    · refine v_aload_n 1 d_Qu_placeOf_28 rfl rfl rfl ?_
      refine v_geti d_Qu_placeOf_29 fl_Qu_18 (hS.o (by decide) rfl) rfl rfl ?_
      refine v_iret d_Qu_placeOf_32 rfl ?_
      have him : i = m := by rcases Nat.lt_or_ge i m with h9 | h9; exact absurd c1 (by rw [h2, ex]; exact nI_ge h9 (by omega)); omega
      exact ⟨by rw [hi0, him, Nat.sub_self]; unfold plc; rw [h2], rfl, rfl, rfl⟩
    · have hlt : i < m := by rcases Nat.lt_or_ge i m with h9 | h9; exact h9; exact absurd (by rw [h2, ex]; exact nI_le h9 (by omega)) c1
      refine v_aload_n 1 d_Qu_placeOf_10 rfl rfl rfl ?_
      refine v_getr (r := 24) d_Qu_placeOf_11 fl_Qu_15 (hS.o (by decide) rfl) rfl (hS.r (by decide) rfl) rfl ?_
      refine v_iload_n 0 d_Qu_placeOf_14 rfl rfl rfl ?_
      refine v_iald (j := i) d_Qu_placeOf_15 (hS.a (t := 32) (n := 8) (by decide) rfl) ex (by omega) (by decide) rfl ?_
      refine v_iload_n 2 d_Qu_placeOf_16 rfl rfl rfl ?_
      refine v_icmp_ne (tgt := 22) d_Qu_placeOf_17 (by decide) rfl (fun c2 => ?_) (fun c2 => ?_)
      · obtain ⟨x3, ex3⟩ : ∃ y : Int32, y = x + 1 := ⟨_, rfl⟩
        have nx3 : x3 = nI (i + 1) := by rw [ex3, ex]; exact nI_1 _
        refine v_iinc (n := 0) (v := x3) (L' := [(2, .int x3), (0, .ref 22), (1, .int y)]) d_Qu_placeOf_22 rfl (by rw [ex3]; rfl) (by decide) rfl rfl ?_
        refine v_goto (tgt := 2) d_Qu_placeOf_25 (by decide) ?_
        exact ih _ _ nx3 (by omega) (by omega) (by rw [hi0]; rw [show m - i = (m - (i + 1)) + 1 by omega, plc_s, if_neg c2])
      · refine v_iload_n 0 d_Qu_placeOf_20 rfl rfl rfl ?_
        refine v_iret d_Qu_placeOf_21 rfl ?_
        exact ⟨by rw [hi0, ex]; cases hk : m - i with
            | zero => omega
            | succ k => unfold plc; rw [if_pos c2], rfl, rfl, rfl⟩
set_option maxHeartbeats 4000000 in
set_option maxRecDepth 100000 in
theorem c_Qu_placeOf {C : CT} {l : Launch} {S : ShT} {I : DI} {J : DJ} {d : Nat} (hC : OKC C l) (hS : SHP S) {m : Nat} (hm : m ≤ 8) (h2 : I 22 2 = nI m) (y : Int32) (hd : 0 ≤ d) : Sp C l k_Qu_placeOf y_Qu_placeOf (d, 0, 0) [.ref 22, .int y] S I J (PP (.int (nI (plc (I 24) y 0 m))) S I J) := by
  refine Sp.of hC cd_Qu_placeOf (Nat.le_of_ble_eq_true rfl) ?_
  show V C l k_Qu_placeOf (d, 0, 0) _ 0 [(0, .ref 22), (1, .int y)] [] S I J (0, 0)
  refine v_iconst (v := 0) d_Qu_placeOf_0 (by decide) rfl ?_
  refine v_istore_n (L' := [(2, .int 0), (0, .ref 22), (1, .int y)]) d_Qu_placeOf_1 rfl (by decide) rfl rfl ?_
  exact lp_Qu_placeOf hC hS hd hm h2 (m + 1) 0 0 rfl (Nat.zero_le _) (by omega) rfl
set_option maxHeartbeats 4000000 in
set_option maxRecDepth 100000 in
theorem c_Qu_putTogether {C : CT} {l : Launch} {S : ShT} {I : DI} {J : DJ} {d : Nat} (hC : OKC C l) (hS : SHP S) {p m : Nat} (hm : m < 8) (hp : p ≤ m) (h2 : I 22 2 = nI (m + 1)) (k : Int32) (hd : 1 ≤ d) : Sp C l k_Qu_putTogether y_Qu_putTogether (d, 0, 0) [.ref 22, .int (nI p), .int k] S I J (PU S J (fun I' => (I 23 p = 1 ∧ k = 3 ∧ Dq I p m I') ∨ (¬ (I 23 p = 1 ∧ k = 3) ∧ I' = u2 I 23 p (tgt (I 23 p) k)))) := by
  refine Sp.of hC cd_Qu_putTogether (Nat.le_of_ble_eq_true rfl) ?_
  show V C l k_Qu_putTogether (d, 0, 0) _ 0 [(0, .ref 22), (1, .int (nI p)), (2, .int k)] [] S I J (0, 0)
  refine v_aload_n 0 d_Qu_putTogether_0 rfl rfl rfl ?_
  refine v_getr (r := 23) d_Qu_putTogether_1 fl_Qu_9 (hS.o (by decide) rfl) rfl (hS.r (by decide) rfl) rfl ?_
  refine v_iload_n 1 d_Qu_putTogether_4 rfl rfl rfl ?_
  refine v_iald (j := p) d_Qu_putTogether_5 (hS.a (t := 32) (n := 8) (by decide) rfl) rfl (by omega) (by decide) rfl ?_
  refine v_istore_n (L' := [(3, .int (I 23 p)), (0, .ref 22), (1, .int (nI p)), (2, .int k)]) d_Qu_putTogether_6 rfl (by decide) rfl rfl ?_
  refine v_iload_n 0 d_Qu_putTogether_7 rfl rfl rfl ?_
  refine v_iconst (v := 1) d_Qu_putTogether_8 (by decide) rfl ?_
  refine v_icmp_ne (tgt := 25) d_Qu_putTogether_9 (by decide) rfl (fun c1 => ?_) (fun c1 => ?_)
  · refine v_iload_n 0 d_Qu_putTogether_25 rfl rfl rfl ?_
    refine v_iconst (v := 2) d_Qu_putTogether_26 (by decide) rfl ?_
    refine v_icmp_ne (tgt := 45) d_Qu_putTogether_27 (by decide) rfl (fun c2 => ?_) (fun c2 => ?_)
    · refine v_iload_n 0 d_Qu_putTogether_45 rfl rfl rfl ?_
      refine v_iconst (v := 3) d_Qu_putTogether_46 (by decide) rfl ?_
      refine v_icmp_ne (tgt := 62) d_Qu_putTogether_47 (by decide) rfl (fun c3 => ?_) (fun c3 => ?_)
      · refine v_vret d_Qu_putTogether_62 rfl ?_
        refine ⟨rfl, rfl, rfl, ?_⟩
        first | exact Or.inl ⟨by assumption, by assumption, by assumption⟩ | exact Or.inr ⟨by rintro ⟨q1, q2⟩; simp_all, by first | (subst_vars; simp_all [tgt]; done) | exact u2_id (by unfold tgt; simp_all)⟩
      · refine v_iload_n 3 d_Qu_putTogether_50 rfl rfl rfl ?_
        refine v_iconst (v := 1) d_Qu_putTogether_51 (by decide) rfl ?_
        refine v_icmp_ne (tgt := 62) d_Qu_putTogether_52 (by decide) rfl (fun c4 => ?_) (fun c4 => ?_)
        · refine v_vret d_Qu_putTogether_62 rfl ?_
          refine ⟨rfl, rfl, rfl, ?_⟩
          first | exact Or.inl ⟨by assumption, by assumption, by assumption⟩ | exact Or.inr ⟨by rintro ⟨q1, q2⟩; simp_all, by first | (subst_vars; simp_all [tgt]; done) | exact u2_id (by unfold tgt; simp_all)⟩
        · refine v_aload_n 1 d_Qu_putTogether_55 rfl rfl rfl ?_
          refine v_getr (r := 23) d_Qu_putTogether_56 fl_Qu_9 (hS.o (by decide) rfl) rfl (hS.r (by decide) rfl) rfl ?_
          refine v_iload_n 2 d_Qu_putTogether_59 rfl rfl rfl ?_
          refine v_iconst (v := 2) d_Qu_putTogether_60 (by decide) rfl ?_
          refine v_iast (j := p) d_Qu_putTogether_61 (hS.a (t := 32) (n := 8) (by decide) rfl) rfl (by omega) (by decide) rfl ?_
          generalize hI5 : u2 I 23 p 2 = I5
          refine v_vret d_Qu_putTogether_62 rfl ?_
          refine ⟨rfl, rfl, rfl, ?_⟩
          first | exact Or.inl ⟨by assumption, by assumption, by assumption⟩ | exact Or.inr ⟨by rintro ⟨q1, q2⟩; simp_all, by first | (subst_vars; simp_all [tgt]; done) | exact u2_id (by unfold tgt; simp_all)⟩
    · refine v_iload_n 3 d_Qu_putTogether_30 rfl rfl rfl ?_
      refine v_iconst (v := 3) d_Qu_putTogether_31 (by decide) rfl ?_
      refine v_icmp_ne (tgt := 45) d_Qu_putTogether_32 (by decide) rfl (fun c6 => ?_) (fun c6 => ?_)
      · refine v_iload_n 0 d_Qu_putTogether_45 rfl rfl rfl ?_
        refine v_iconst (v := 3) d_Qu_putTogether_46 (by decide) rfl ?_
        refine v_icmp_ne (tgt := 62) d_Qu_putTogether_47 (by decide) rfl (fun c7 => ?_) (fun c7 => ?_)
        · refine v_vret d_Qu_putTogether_62 rfl ?_
          refine ⟨rfl, rfl, rfl, ?_⟩
          first | exact Or.inl ⟨by assumption, by assumption, by assumption⟩ | exact Or.inr ⟨by rintro ⟨q1, q2⟩; simp_all, by first | (subst_vars; simp_all [tgt]; done) | exact u2_id (by unfold tgt; simp_all)⟩
        · refine v_iload_n 3 d_Qu_putTogether_50 rfl rfl rfl ?_
          refine v_iconst (v := 1) d_Qu_putTogether_51 (by decide) rfl ?_
          refine v_icmp_ne (tgt := 62) d_Qu_putTogether_52 (by decide) rfl (fun c8 => ?_) (fun c8 => ?_)
          · refine v_vret d_Qu_putTogether_62 rfl ?_
            refine ⟨rfl, rfl, rfl, ?_⟩
            first | exact Or.inl ⟨by assumption, by assumption, by assumption⟩ | exact Or.inr ⟨by rintro ⟨q1, q2⟩; simp_all, by first | (subst_vars; simp_all [tgt]; done) | exact u2_id (by unfold tgt; simp_all)⟩
          · refine v_aload_n 1 d_Qu_putTogether_55 rfl rfl rfl ?_
            refine v_getr (r := 23) d_Qu_putTogether_56 fl_Qu_9 (hS.o (by decide) rfl) rfl (hS.r (by decide) rfl) rfl ?_
            refine v_iload_n 2 d_Qu_putTogether_59 rfl rfl rfl ?_
            refine v_iconst (v := 2) d_Qu_putTogether_60 (by decide) rfl ?_
            refine v_iast (j := p) d_Qu_putTogether_61 (hS.a (t := 32) (n := 8) (by decide) rfl) rfl (by omega) (by decide) rfl ?_
            generalize hI9 : u2 I 23 p 2 = I9
            refine v_vret d_Qu_putTogether_62 rfl ?_
            refine ⟨rfl, rfl, rfl, ?_⟩
            first | exact Or.inl ⟨by assumption, by assumption, by assumption⟩ | exact Or.inr ⟨by rintro ⟨q1, q2⟩; simp_all, by first | (subst_vars; simp_all [tgt]; done) | exact u2_id (by unfold tgt; simp_all)⟩
      · refine v_aload_n 1 d_Qu_putTogether_35 rfl rfl rfl ?_
        refine v_getr (r := 23) d_Qu_putTogether_36 fl_Qu_9 (hS.o (by decide) rfl) rfl (hS.r (by decide) rfl) rfl ?_
        refine v_iload_n 2 d_Qu_putTogether_39 rfl rfl rfl ?_
        refine v_iconst (v := 3) d_Qu_putTogether_40 (by decide) rfl ?_
        refine v_iast (j := p) d_Qu_putTogether_41 (hS.a (t := 32) (n := 8) (by decide) rfl) rfl (by omega) (by decide) rfl ?_
        generalize hI10 : u2 I 23 p 3 = I10
        refine v_goto (tgt := 62) d_Qu_putTogether_42 (by decide) ?_
        refine v_vret d_Qu_putTogether_62 rfl ?_
        refine ⟨rfl, rfl, rfl, ?_⟩
        first | exact Or.inl ⟨by assumption, by assumption, by assumption⟩ | exact Or.inr ⟨by rintro ⟨q1, q2⟩; simp_all, by first | (subst_vars; simp_all [tgt]; done) | exact u2_id (by unfold tgt; simp_all)⟩
  · refine v_iload_n 3 d_Qu_putTogether_12 rfl rfl rfl ?_
    refine v_iconst (v := 3) d_Qu_putTogether_13 (by decide) rfl ?_
    refine v_icmp_ne (tgt := 25) d_Qu_putTogether_14 (by decide) rfl (fun c11 => ?_) (fun c11 => ?_)
    · refine v_iload_n 0 d_Qu_putTogether_25 rfl rfl rfl ?_
      refine v_iconst (v := 2) d_Qu_putTogether_26 (by decide) rfl ?_
      refine v_icmp_ne (tgt := 45) d_Qu_putTogether_27 (by decide) rfl (fun c12 => ?_) (fun c12 => ?_)
      · refine v_iload_n 0 d_Qu_putTogether_45 rfl rfl rfl ?_
        refine v_iconst (v := 3) d_Qu_putTogether_46 (by decide) rfl ?_
        refine v_icmp_ne (tgt := 62) d_Qu_putTogether_47 (by decide) rfl (fun c13 => ?_) (fun c13 => ?_)
        · refine v_vret d_Qu_putTogether_62 rfl ?_
          refine ⟨rfl, rfl, rfl, ?_⟩
          first | exact Or.inl ⟨by assumption, by assumption, by assumption⟩ | exact Or.inr ⟨by rintro ⟨q1, q2⟩; simp_all, by first | (subst_vars; simp_all [tgt]; done) | exact u2_id (by unfold tgt; simp_all)⟩
        · refine v_iload_n 3 d_Qu_putTogether_50 rfl rfl rfl ?_
          refine v_iconst (v := 1) d_Qu_putTogether_51 (by decide) rfl ?_
          refine v_icmp_ne (tgt := 62) d_Qu_putTogether_52 (by decide) rfl (fun c14 => ?_) (fun c14 => ?_)
          · refine v_vret d_Qu_putTogether_62 rfl ?_
            refine ⟨rfl, rfl, rfl, ?_⟩
            first | exact Or.inl ⟨by assumption, by assumption, by assumption⟩ | exact Or.inr ⟨by rintro ⟨q1, q2⟩; simp_all, by first | (subst_vars; simp_all [tgt]; done) | exact u2_id (by unfold tgt; simp_all)⟩
          · refine v_aload_n 1 d_Qu_putTogether_55 rfl rfl rfl ?_
            refine v_getr (r := 23) d_Qu_putTogether_56 fl_Qu_9 (hS.o (by decide) rfl) rfl (hS.r (by decide) rfl) rfl ?_
            refine v_iload_n 2 d_Qu_putTogether_59 rfl rfl rfl ?_
            refine v_iconst (v := 2) d_Qu_putTogether_60 (by decide) rfl ?_
            refine v_iast (j := p) d_Qu_putTogether_61 (hS.a (t := 32) (n := 8) (by decide) rfl) rfl (by omega) (by decide) rfl ?_
            generalize hI15 : u2 I 23 p 2 = I15
            refine v_vret d_Qu_putTogether_62 rfl ?_
            refine ⟨rfl, rfl, rfl, ?_⟩
            first | exact Or.inl ⟨by assumption, by assumption, by assumption⟩ | exact Or.inr ⟨by rintro ⟨q1, q2⟩; simp_all, by first | (subst_vars; simp_all [tgt]; done) | exact u2_id (by unfold tgt; simp_all)⟩
      · refine v_iload_n 3 d_Qu_putTogether_30 rfl rfl rfl ?_
        refine v_iconst (v := 3) d_Qu_putTogether_31 (by decide) rfl ?_
        refine v_icmp_ne (tgt := 45) d_Qu_putTogether_32 (by decide) rfl (fun c16 => ?_) (fun c16 => ?_)
        · refine v_iload_n 0 d_Qu_putTogether_45 rfl rfl rfl ?_
          refine v_iconst (v := 3) d_Qu_putTogether_46 (by decide) rfl ?_
          refine v_icmp_ne (tgt := 62) d_Qu_putTogether_47 (by decide) rfl (fun c17 => ?_) (fun c17 => ?_)
          · refine v_vret d_Qu_putTogether_62 rfl ?_
            refine ⟨rfl, rfl, rfl, ?_⟩
            first | exact Or.inl ⟨by assumption, by assumption, by assumption⟩ | exact Or.inr ⟨by rintro ⟨q1, q2⟩; simp_all, by first | (subst_vars; simp_all [tgt]; done) | exact u2_id (by unfold tgt; simp_all)⟩
          · refine v_iload_n 3 d_Qu_putTogether_50 rfl rfl rfl ?_
            refine v_iconst (v := 1) d_Qu_putTogether_51 (by decide) rfl ?_
            refine v_icmp_ne (tgt := 62) d_Qu_putTogether_52 (by decide) rfl (fun c18 => ?_) (fun c18 => ?_)
            · refine v_vret d_Qu_putTogether_62 rfl ?_
              refine ⟨rfl, rfl, rfl, ?_⟩
              first | exact Or.inl ⟨by assumption, by assumption, by assumption⟩ | exact Or.inr ⟨by rintro ⟨q1, q2⟩; simp_all, by first | (subst_vars; simp_all [tgt]; done) | exact u2_id (by unfold tgt; simp_all)⟩
            · refine v_aload_n 1 d_Qu_putTogether_55 rfl rfl rfl ?_
              refine v_getr (r := 23) d_Qu_putTogether_56 fl_Qu_9 (hS.o (by decide) rfl) rfl (hS.r (by decide) rfl) rfl ?_
              refine v_iload_n 2 d_Qu_putTogether_59 rfl rfl rfl ?_
              refine v_iconst (v := 2) d_Qu_putTogether_60 (by decide) rfl ?_
              refine v_iast (j := p) d_Qu_putTogether_61 (hS.a (t := 32) (n := 8) (by decide) rfl) rfl (by omega) (by decide) rfl ?_
              generalize hI19 : u2 I 23 p 2 = I19
              refine v_vret d_Qu_putTogether_62 rfl ?_
              refine ⟨rfl, rfl, rfl, ?_⟩
              first | exact Or.inl ⟨by assumption, by assumption, by assumption⟩ | exact Or.inr ⟨by rintro ⟨q1, q2⟩; simp_all, by first | (subst_vars; simp_all [tgt]; done) | exact u2_id (by unfold tgt; simp_all)⟩
        · refine v_aload_n 1 d_Qu_putTogether_35 rfl rfl rfl ?_
          refine v_getr (r := 23) d_Qu_putTogether_36 fl_Qu_9 (hS.o (by decide) rfl) rfl (hS.r (by decide) rfl) rfl ?_
          refine v_iload_n 2 d_Qu_putTogether_39 rfl rfl rfl ?_
          refine v_iconst (v := 3) d_Qu_putTogether_40 (by decide) rfl ?_
          refine v_iast (j := p) d_Qu_putTogether_41 (hS.a (t := 32) (n := 8) (by decide) rfl) rfl (by omega) (by decide) rfl ?_
          generalize hI20 : u2 I 23 p 3 = I20
          refine v_goto (tgt := 62) d_Qu_putTogether_42 (by decide) ?_
          refine v_vret d_Qu_putTogether_62 rfl ?_
          refine ⟨rfl, rfl, rfl, ?_⟩
          first | exact Or.inl ⟨by assumption, by assumption, by assumption⟩ | exact Or.inr ⟨by rintro ⟨q1, q2⟩; simp_all, by first | (subst_vars; simp_all [tgt]; done) | exact u2_id (by unfold tgt; simp_all)⟩
    · refine v_aload_n 1 d_Qu_putTogether_17 rfl rfl rfl ?_
      refine v_iload_n 2 d_Qu_putTogether_18 rfl rfl rfl ?_
      refine v_cVu (as := [.int (nI p)]) d_Qu_putTogether_19 cs_Qu_34 (c_Qu_drop hC hS (d := d - 1) (p := p) (m := m) (by omega) (by omega) h2 (by omega)) (hS.o (by decide) rfl) (by decide) rfl rfl rfl (by decide) (by omega) rfl (fun I21 h22 => ?_)
      refine v_goto (tgt := 62) d_Qu_putTogether_22 (by decide) ?_
      refine v_vret d_Qu_putTogether_62 rfl ?_
      refine ⟨rfl, rfl, rfl, ?_⟩
      first | exact Or.inl ⟨by assumption, by assumption, by assumption⟩ | exact Or.inr ⟨by rintro ⟨q1, q2⟩; simp_all, by first | (subst_vars; simp_all [tgt]; done) | exact u2_id (by unfold tgt; simp_all)⟩
end
section
set_option maxHeartbeats 4000000 in
set_option maxRecDepth 100000 in
theorem c_Qu_tell {C : CT} {l : Launch} {S : ShT} {I : DI} {J : DJ} {d : Nat} (hC : OKC C l) (hS : SHP S) {m : Nat} (hm : m ≤ 8) (h2 : I 22 2 = nI m) (x k : Int32) (hd : 2 ≤ d) : Sp C l k_Qu_tell y_Qu_tell (d, 0, 0) [.ref 22, .int x, .int k] S I J (PU S J (fun I' => ∃ m', I' 22 2 = nI m' ∧ TQ (I 22 3) m (I 23) (I 24) x k (I' 22 3) m' (I' 23) (I' 24) ∧ ∀ b, b ≠ 22 → b ≠ 23 → b ≠ 24 → I' b = I b)) := by
  refine Sp.of hC cd_Qu_tell (Nat.le_of_ble_eq_true rfl) ?_
  show V C l k_Qu_tell (d, 0, 0) _ 0 [(0, .ref 22), (1, .int x), (2, .int k)] [] S I J (0, 0)
  refine v_aload_n 0 d_Qu_tell_0 rfl rfl rfl ?_
  refine v_geti d_Qu_tell_1 fl_Qu_22 (hS.o (by decide) rfl) rfl rfl ?_
  refine v_if_eq (tgt := 8) d_Qu_tell_4 (by decide) rfl (fun c1 => ?_) (fun c1 => ?_)
  · refine v_aload_n 0 d_Qu_tell_8 rfl rfl rfl ?_
    refine v_iload_n 1 d_Qu_tell_9 rfl rfl rfl ?_
    refine v_cVp (as := [.int x]) d_Qu_tell_10 cs_Qu_26 (c_Qu_placeOf hC hS (d := d - 1) hm h2 x (by omega)) (hS.o (by decide) rfl) (by decide) rfl rfl rfl (by decide) (by omega) rfl ?_
    obtain ⟨p, hp⟩ : ∃ p, p = plc (I 24) x 0 m := ⟨_, rfl⟩
    rw [← hp]
    refine v_istore_n (L' := [(3, .int (nI p)), (0, .ref 22), (1, .int x), (2, .int k)]) d_Qu_tell_13 rfl (by decide) rfl rfl ?_
    refine v_iload_n 0 d_Qu_tell_14 rfl rfl rfl ?_
    refine v_aload_n 1 d_Qu_tell_15 rfl rfl rfl ?_
    refine v_geti d_Qu_tell_16 fl_Qu_18 (hS.o (by decide) rfl) rfl rfl ?_
    refine v_icmp_ge (tgt := 31) d_Qu_tell_19 (by decide) rfl (fun c2 => ?_) (fun c2 => ?_)
    · have hge : ¬ p < m := fun h9 => absurd c2 (by rw [h2]; exact nI_ge h9 (by omega))
      refine v_aload_n 1 d_Qu_tell_31 rfl rfl rfl ?_
      refine v_geti d_Qu_tell_32 fl_Qu_18 (hS.o (by decide) rfl) rfl rfl ?_
      refine v_bipush (v := 8) d_Qu_tell_35 (by decide) rfl ?_
      refine v_icmp_ge (tgt := 73) d_Qu_tell_37 (by decide) rfl (fun c3 => ?_) (fun c3 => ?_)
      · have hm8 : ¬ m < 8 := fun h9 => absurd c3 (by rw [h2]; exact nI_ge (b := 8) h9 (by decide))
        refine v_aload_n 1 d_Qu_tell_73 rfl rfl rfl ?_
        refine v_iconst (v := 0) d_Qu_tell_74 (by decide) rfl ?_
        refine v_puti d_Qu_tell_75 fl_Qu_18 (hS.o (by decide) rfl) rfl rfl rfl ?_
        generalize hI4 : u2 I 22 2 0 = I4
        refine v_aload_n 1 d_Qu_tell_78 rfl rfl rfl ?_
        refine v_iconst (v := 1) d_Qu_tell_79 (by decide) rfl ?_
        refine v_putz d_Qu_tell_80 fl_Qu_22 (hS.o (by decide) rfl) rfl rfl (Or.inr rfl) rfl ?_
        generalize hI5 : u2 I4 22 3 1 = I5
        refine v_vret d_Qu_tell_83 rfl ?_
        refine ⟨rfl, rfl, rfl, 0, by subst_vars; rw [u2_n (by decide), u2_s]; rfl, ⟨fun q => absurd c1 q, fun _ q => absurd (by rw [← hp] at q; exact q) hge, fun _ q => absurd (by rw [← hp] at q; exact q) hge, fun _ _ q => absurd q hm8, fun _ _ _ => ⟨by subst_vars; rw [u2_s], rfl⟩⟩, fun b b1 b2 b3 => by subst_vars; rw [u2_o b1, u2_o b1]⟩
      · have hm8 : m < 8 := by rcases Nat.lt_or_ge m 8 with h9 | h9; exact h9; exact absurd (by rw [h2]; exact nI_le (a := 8) h9 (by omega)) c3
        refine v_aload_n 1 d_Qu_tell_40 rfl rfl rfl ?_
        refine v_getr (r := 23) d_Qu_tell_41 fl_Qu_9 (hS.o (by decide) rfl) rfl (hS.r (by decide) rfl) rfl ?_
        refine v_aload_n 1 d_Qu_tell_44 rfl rfl rfl ?_
        refine v_geti d_Qu_tell_45 fl_Qu_18 (hS.o (by decide) rfl) rfl rfl ?_
        refine v_iload_n 3 d_Qu_tell_48 rfl rfl rfl ?_
        refine v_iast (j := m) d_Qu_tell_49 (hS.a (t := 32) (n := 8) (by decide) rfl) h2 (by omega) (by decide) rfl ?_
        generalize hI6 : u2 I 23 m k = I6
        have fI6 : I6 22 2 = nI m := by rw [← hI6, u2_o (by decide)]; exact h2
        refine v_aload_n 1 d_Qu_tell_50 rfl rfl rfl ?_
        refine v_getr (r := 24) d_Qu_tell_51 fl_Qu_15 (hS.o (by decide) rfl) rfl (hS.r (by decide) rfl) rfl ?_
        refine v_aload_n 1 d_Qu_tell_54 rfl rfl rfl ?_
        refine v_geti d_Qu_tell_55 fl_Qu_18 (hS.o (by decide) rfl) rfl rfl ?_
        refine v_iload_n 2 d_Qu_tell_58 rfl rfl rfl ?_
        refine v_iast (j := m) d_Qu_tell_59 (hS.a (t := 32) (n := 8) (by decide) rfl) fI6 (by omega) (by decide) rfl ?_
        generalize hI7 : u2 I6 24 m x = I7
        refine v_aload_n 1 d_Qu_tell_60 rfl rfl rfl ?_
        refine v_dup d_Qu_tell_61 rfl rfl ?_
        refine v_geti d_Qu_tell_62 fl_Qu_18 (hS.o (by decide) rfl) rfl rfl ?_
        refine v_iconst (v := 1) d_Qu_tell_65 (by decide) rfl ?_
        refine v_iadd d_Qu_tell_66 rfl ?_
        refine v_nmi (fun z8 ez8 => ?_)
        refine v_puti d_Qu_tell_67 fl_Qu_18 (hS.o (by decide) rfl) rfl rfl rfl ?_
        generalize hI9 : u2 I7 22 2 z8 = I9
        refine v_goto (tgt := 83) d_Qu_tell_70 (by decide) ?_
        refine v_vret d_Qu_tell_83 rfl ?_
        refine ⟨rfl, rfl, rfl, m + 1, by subst_vars; rw [u2_s, u2_o (by decide), u2_o (by decide), h2]; exact nI_1 m, ⟨fun q => absurd c1 q, fun _ q => absurd (by rw [← hp] at q; exact q) hge, fun _ q => absurd (by rw [← hp] at q; exact q) hge, fun _ _ _ => ?_, fun _ _ q => absurd hm8 q⟩, fun b b1 b2 b3 => by subst_vars; rw [u2_o b1, u2_o b3, u2_o b2]⟩
        subst_vars
        refine ⟨by rw [u2_n (by decide), u2_o (by decide), u2_o (by decide)], rfl, by rw [u2_o (by decide), u2_o (by decide), u2_s], by rw [u2_o (by decide), u2_s], fun j hj => ⟨by rw [u2_o (by decide), u2_o (by decide), u2_n (Or.inr (by omega))], by rw [u2_o (by decide), u2_n (Or.inr (by omega)), u2_o (by decide)]⟩⟩
    · have hlt : p < m := by rcases Nat.lt_or_ge p m with h9 | h9; exact h9; exact absurd (by rw [h2]; exact nI_le h9 (by have := (plc_le (I 24) x m 0).2; omega)) c2
      refine v_aload_n 1 d_Qu_tell_22 rfl rfl rfl ?_
      refine v_iload_n 0 d_Qu_tell_23 rfl rfl rfl ?_
      refine v_iload_n 3 d_Qu_tell_24 rfl rfl rfl ?_
      refine v_cVu (as := [.int (nI p), .int k]) d_Qu_tell_25 cs_Qu_30 (c_Qu_putTogether hC hS (d := d - 1) (p := p) (m := m - 1) (by omega) (by omega) (by rw [h2, show m - 1 + 1 = m by omega]) k (by omega)) (hS.o (by decide) rfl) (by decide) rfl rfl rfl (by decide) (by omega) rfl (fun I10 hq => ?_)
      refine v_goto (tgt := 83) d_Qu_tell_28 (by decide) ?_
      refine v_vret d_Qu_tell_83 rfl ?_
      refine ⟨rfl, rfl, rfl, ?_⟩
      rcases hq with ⟨q1, q2, q3, q4, q5, q6, q7⟩ | ⟨q1, rfl⟩
      · refine ⟨m - 1, q3, ⟨fun q => absurd c1 q, fun _ _ _ => ⟨q4 3 (by decide), rfl, fun j hj => ?_⟩, fun _ _ q => absurd ⟨by rw [← hp]; exact q1, q2⟩ q, fun _ q => absurd (by rw [← hp]; exact hlt) q, fun _ q => absurd (by rw [← hp]; exact hlt) q⟩, q7⟩
        rw [← hp, q5, q6]; exact ⟨rfl, rfl⟩
      · refine ⟨m, by rw [u2_o (by decide)]; exact h2, ⟨fun q => absurd c1 q, fun _ _ q => absurd ⟨by have := q.1; rw [← hp] at this; exact this, q.2⟩ q1, fun _ _ _ => ⟨by rw [u2_o (by decide)], rfl, fun j hj => ⟨by rw [u2_o (by decide)], ?_⟩⟩, fun _ q => absurd (by rw [← hp]; exact hlt) q, fun _ q => absurd (by rw [← hp]; exact hlt) q⟩, fun b b1 b2 b3 => u2_o b2⟩
        rw [u2_row, ← hp]; show (if j = p then tgt (I 23 p) k else I 23 j) = _; by_cases hj2 : j = p
        · rw [if_pos hj2, if_pos hj2, hj2]
        · rw [if_neg hj2, if_neg hj2]
  · refine v_vret d_Qu_tell_7 rfl ?_
    exact ⟨rfl, rfl, rfl, m, h2, ⟨fun _ => ⟨rfl, rfl, fun _ _ => ⟨rfl, rfl⟩⟩, fun q => absurd q c1, fun q => absurd q c1, fun q => absurd q c1, fun q => absurd q c1⟩, fun _ _ _ _ => rfl⟩
/-- how many of the first k places hold what p asks -/
def cnt (p : Nat → Bool) : Nat → Nat
  | 0 => 0
  | k + 1 => cnt p k + if p k then 1 else 0
theorem cnt_le (p : Nat → Bool) : ∀ k, cnt p k ≤ k
  | 0 => Nat.le_refl _
  | k + 1 => by
    have h := cnt_le p k
    unfold cnt
    by_cases hp : p k = true
    · rw [if_pos hp]; omega
    · rw [if_neg hp]; omega
theorem cnt_eq {p q : Nat → Bool} : ∀ k, (∀ j, j < k → p j = q j) → cnt p k = cnt q k
  | 0, _ => rfl
  | k + 1, h => by
    unfold cnt
    rw [cnt_eq k (fun j hj => h j (by omega)), h k (by omega)]
set_option maxHeartbeats 4000000 in
set_option maxRecDepth 100000 in
theorem lp_Tr_nodesThere {C : CT} {l : Launch} {S : ShT} {d : Nat} (hC : OKC C l) (hS : SHP S) (hd : 2 ≤ d) {I : DI} {J : DJ}  : ∀ (n : Nat) (i : Nat) (x z : Int32) (a : Nat), x = nI i → z = nI a → i ≤ 16 → 16 < i + n → a = cnt (fun j => !decide (I 2 j = 0)) i → V C l k_Tr_nodesThere (d, 0, 0) (PP (.int (nI (cnt (fun j => !decide (I 2 j = 0)) 16))) S I J) 4 [(2, .int x), (1, .int z), (0, .ref 1)] [] S I J (0, 0) := by
  intro n
  induction n with
  | zero =>
    intro i x z a ex ez hi hf ea
    omega
  | succ n ih =>
    intro i x z a ex ez hi hf ea
    refine v_iload_n 0 d_Tr_nodesThere_4 rfl rfl rfl ?_
    refine v_bipush (v := 16) d_Tr_nodesThere_5 (by decide) rfl ?_
    refine v_icmp_ge (tgt := 32) d_Tr_nodesThere_7 (by decide) rfl (fun c1 => ?_) (fun c1 => ?_)
    · refine v_iload_n 1 d_Tr_nodesThere_32 rfl rfl rfl ?_
      refine v_iret d_Tr_nodesThere_33 rfl ?_
      have hi16 : i = 16 := by rcases Nat.lt_or_ge i 16 with h9 | h9; exact absurd c1 (by rw [ex]; exact nI_ge (b := 16) h9 (by decide)); omega
      subst hi16
      exact ⟨by rw [ez, ea], rfl, rfl, rfl⟩
    · have hlt : i < 16 := by rcases Nat.lt_or_ge i 16 with h9 | h9; exact h9; exact absurd (by rw [ex]; exact nI_le (a := 16) h9 (by omega)) c1
      refine v_iload_n 1 d_Tr_nodesThere_10 rfl rfl rfl ?_
      refine v_aload_n 2 d_Tr_nodesThere_11 rfl rfl rfl ?_
      refine v_iload_n 0 d_Tr_nodesThere_12 rfl rfl rfl ?_
      refine v_cVp (as := [.int x]) d_Tr_nodesThere_13 cs_Tr_30 (by have h9 := c_Tr_isThere (C := C) (l := l) (S := S) (I := I) (J := J) hC hS (d := d - 1) (nI i) (by omega); rw [ndS_j hlt, ← ex] at h9; exact h9) (hS.o (by decide) rfl) (by decide) rfl rfl rfl (by simp [Value.category]) (by omega) rfl ?_
      refine v_if_eq (tgt := 23) d_Tr_nodesThere_16 (by decide) rfl (fun c2 => ?_) (fun c2 => ?_)
      · refine v_iconst (v := 0) d_Tr_nodesThere_23 (by decide) rfl ?_
        refine v_iadd d_Tr_nodesThere_24 rfl ?_
        refine v_nmi (fun z3 ez3 => ?_)
        have nz3 : z3 = nI (a + 0) := by rw [ez3, show z = nI a from ez, show 0 = nI 0 from rfl]; exact nI_add _ _
        refine v_istore_n (L' := [(1, .int z3), (2, .int x), (0, .ref 1)]) d_Tr_nodesThere_25 rfl (by decide) rfl rfl ?_
        obtain ⟨x4, ex4⟩ : ∃ y : Int32, y = x + 1 := ⟨_, rfl⟩
        have nx4 : x4 = nI (i + 1) := by rw [ex4, ex]; exact nI_1 _
        refine v_iinc (n := 1) (v := x4) (L' := [(2, .int x4), (1, .int z3), (0, .ref 1)]) d_Tr_nodesThere_26 rfl (by rw [ex4]; rfl) (by decide) rfl rfl ?_
        refine v_goto (tgt := 4) d_Tr_nodesThere_29 (by decide) ?_
        exact ih _ _ _ _ nx4 nz3 (by omega) (by omega) (by unfold cnt; rw [ea]; first | (simp_all [bI]; done) | (rcases hb i hlt with h9 | h9 <;> simp_all))
      · refine v_iconst (v := 1) d_Tr_nodesThere_19 (by decide) rfl ?_
        refine v_goto (tgt := 24) d_Tr_nodesThere_20 (by decide) ?_
        refine v_iadd d_Tr_nodesThere_24 rfl ?_
        refine v_nmi (fun z5 ez5 => ?_)
        have nz5 : z5 = nI (a + 1) := by rw [ez5, show z = nI a from ez, show 1 = nI 1 from rfl]; exact nI_add _ _
        refine v_istore_n (L' := [(1, .int z5), (2, .int x), (0, .ref 1)]) d_Tr_nodesThere_25 rfl (by decide) rfl rfl ?_
        obtain ⟨x6, ex6⟩ : ∃ y : Int32, y = x + 1 := ⟨_, rfl⟩
        have nx6 : x6 = nI (i + 1) := by rw [ex6, ex]; exact nI_1 _
        refine v_iinc (n := 1) (v := x6) (L' := [(2, .int x6), (1, .int z5), (0, .ref 1)]) d_Tr_nodesThere_26 rfl (by rw [ex6]; rfl) (by decide) rfl rfl ?_
        refine v_goto (tgt := 4) d_Tr_nodesThere_29 (by decide) ?_
        exact ih _ _ _ _ nx6 nz5 (by omega) (by omega) (by unfold cnt; rw [ea]; first | (simp_all [bI]; done) | (rcases hb i hlt with h9 | h9 <;> simp_all))
set_option maxHeartbeats 4000000 in
set_option maxRecDepth 100000 in
theorem c_Tr_nodesThere {C : CT} {l : Launch} {S : ShT} {I : DI} {J : DJ} {d : Nat} (hC : OKC C l) (hS : SHP S) (hd : 2 ≤ d) : Sp C l k_Tr_nodesThere y_Tr_nodesThere (d, 0, 0) [.ref 1] S I J (PP (.int (nI (cnt (fun j => !decide (I 2 j = 0)) 16))) S I J) := by
  refine Sp.of hC cd_Tr_nodesThere (Nat.le_of_ble_eq_true rfl) ?_
  show V C l k_Tr_nodesThere (d, 0, 0) _ 0 [(0, .ref 1)] [] S I J (0, 0)
  refine v_iconst (v := 0) d_Tr_nodesThere_0 (by decide) rfl ?_
  refine v_istore_n (L' := [(1, .int 0), (0, .ref 1)]) d_Tr_nodesThere_1 rfl (by decide) rfl rfl ?_
  refine v_iconst (v := 0) d_Tr_nodesThere_2 (by decide) rfl ?_
  refine v_istore_n (L' := [(2, .int 0), (1, .int 0), (0, .ref 1)]) d_Tr_nodesThere_3 rfl (by decide) rfl rfl ?_
  exact lp_Tr_nodesThere hC hS hd  17 0 0 0 0 rfl rfl (by omega) (by omega) rfl
set_option maxHeartbeats 4000000 in
set_option maxRecDepth 100000 in
theorem lp_Tr_filesThere {C : CT} {l : Launch} {S : ShT} {d : Nat} (hC : OKC C l) (hS : SHP S) (hd : 2 ≤ d) {I : DI} {J : DJ}  : ∀ (n : Nat) (i : Nat) (x z : Int32) (a : Nat), x = nI i → z = nI a → i ≤ 16 → 16 < i + n → a = cnt (fun j => decide (I 2 j = 2)) i → V C l k_Tr_filesThere (d, 0, 0) (PP (.int (nI (cnt (fun j => decide (I 2 j = 2)) 16))) S I J) 4 [(2, .int x), (1, .int z), (0, .ref 1)] [] S I J (0, 0) := by
  intro n
  induction n with
  | zero =>
    intro i x z a ex ez hi hf ea
    omega
  | succ n ih =>
    intro i x z a ex ez hi hf ea
    refine v_iload_n 0 d_Tr_filesThere_4 rfl rfl rfl ?_
    refine v_bipush (v := 16) d_Tr_filesThere_5 (by decide) rfl ?_
    refine v_icmp_ge (tgt := 32) d_Tr_filesThere_7 (by decide) rfl (fun c1 => ?_) (fun c1 => ?_)
    · refine v_iload_n 1 d_Tr_filesThere_32 rfl rfl rfl ?_
      refine v_iret d_Tr_filesThere_33 rfl ?_
      have hi16 : i = 16 := by rcases Nat.lt_or_ge i 16 with h9 | h9; exact absurd c1 (by rw [ex]; exact nI_ge (b := 16) h9 (by decide)); omega
      subst hi16
      exact ⟨by rw [ez, ea], rfl, rfl, rfl⟩
    · have hlt : i < 16 := by rcases Nat.lt_or_ge i 16 with h9 | h9; exact h9; exact absurd (by rw [ex]; exact nI_le (a := 16) h9 (by omega)) c1
      refine v_iload_n 1 d_Tr_filesThere_10 rfl rfl rfl ?_
      refine v_aload_n 2 d_Tr_filesThere_11 rfl rfl rfl ?_
      refine v_iload_n 0 d_Tr_filesThere_12 rfl rfl rfl ?_
      refine v_cVp (as := [.int x]) d_Tr_filesThere_13 cs_Tr_33 (by have h9 := c_Tr_isFile (C := C) (l := l) (S := S) (I := I) (J := J) hC hS (d := d - 1) (nI i) (by omega); rw [ndS_j hlt, ← ex] at h9; exact h9) (hS.o (by decide) rfl) (by decide) rfl rfl rfl (by simp [Value.category]) (by omega) rfl ?_
      refine v_if_eq (tgt := 23) d_Tr_filesThere_16 (by decide) rfl (fun c2 => ?_) (fun c2 => ?_)
      · refine v_iconst (v := 0) d_Tr_filesThere_23 (by decide) rfl ?_
        refine v_iadd d_Tr_filesThere_24 rfl ?_
        refine v_nmi (fun z3 ez3 => ?_)
        have nz3 : z3 = nI (a + 0) := by rw [ez3, show z = nI a from ez, show 0 = nI 0 from rfl]; exact nI_add _ _
        refine v_istore_n (L' := [(1, .int z3), (2, .int x), (0, .ref 1)]) d_Tr_filesThere_25 rfl (by decide) rfl rfl ?_
        obtain ⟨x4, ex4⟩ : ∃ y : Int32, y = x + 1 := ⟨_, rfl⟩
        have nx4 : x4 = nI (i + 1) := by rw [ex4, ex]; exact nI_1 _
        refine v_iinc (n := 1) (v := x4) (L' := [(2, .int x4), (1, .int z3), (0, .ref 1)]) d_Tr_filesThere_26 rfl (by rw [ex4]; rfl) (by decide) rfl rfl ?_
        refine v_goto (tgt := 4) d_Tr_filesThere_29 (by decide) ?_
        exact ih _ _ _ _ nx4 nz3 (by omega) (by omega) (by unfold cnt; rw [ea]; first | (simp_all [bI]; done) | (rcases hb i hlt with h9 | h9 <;> simp_all))
      · refine v_iconst (v := 1) d_Tr_filesThere_19 (by decide) rfl ?_
        refine v_goto (tgt := 24) d_Tr_filesThere_20 (by decide) ?_
        refine v_iadd d_Tr_filesThere_24 rfl ?_
        refine v_nmi (fun z5 ez5 => ?_)
        have nz5 : z5 = nI (a + 1) := by rw [ez5, show z = nI a from ez, show 1 = nI 1 from rfl]; exact nI_add _ _
        refine v_istore_n (L' := [(1, .int z5), (2, .int x), (0, .ref 1)]) d_Tr_filesThere_25 rfl (by decide) rfl rfl ?_
        obtain ⟨x6, ex6⟩ : ∃ y : Int32, y = x + 1 := ⟨_, rfl⟩
        have nx6 : x6 = nI (i + 1) := by rw [ex6, ex]; exact nI_1 _
        refine v_iinc (n := 1) (v := x6) (L' := [(2, .int x6), (1, .int z5), (0, .ref 1)]) d_Tr_filesThere_26 rfl (by rw [ex6]; rfl) (by decide) rfl rfl ?_
        refine v_goto (tgt := 4) d_Tr_filesThere_29 (by decide) ?_
        exact ih _ _ _ _ nx6 nz5 (by omega) (by omega) (by unfold cnt; rw [ea]; first | (simp_all [bI]; done) | (rcases hb i hlt with h9 | h9 <;> simp_all))
set_option maxHeartbeats 4000000 in
set_option maxRecDepth 100000 in
theorem c_Tr_filesThere {C : CT} {l : Launch} {S : ShT} {I : DI} {J : DJ} {d : Nat} (hC : OKC C l) (hS : SHP S) (hd : 2 ≤ d) : Sp C l k_Tr_filesThere y_Tr_filesThere (d, 0, 0) [.ref 1] S I J (PP (.int (nI (cnt (fun j => decide (I 2 j = 2)) 16))) S I J) := by
  refine Sp.of hC cd_Tr_filesThere (Nat.le_of_ble_eq_true rfl) ?_
  show V C l k_Tr_filesThere (d, 0, 0) _ 0 [(0, .ref 1)] [] S I J (0, 0)
  refine v_iconst (v := 0) d_Tr_filesThere_0 (by decide) rfl ?_
  refine v_istore_n (L' := [(1, .int 0), (0, .ref 1)]) d_Tr_filesThere_1 rfl (by decide) rfl rfl ?_
  refine v_iconst (v := 0) d_Tr_filesThere_2 (by decide) rfl ?_
  refine v_istore_n (L' := [(2, .int 0), (1, .int 0), (0, .ref 1)]) d_Tr_filesThere_3 rfl (by decide) rfl rfl ?_
  exact lp_Tr_filesThere hC hS hd  17 0 0 0 0 rfl rfl (by omega) (by omega) rfl
set_option maxHeartbeats 4000000 in
set_option maxRecDepth 100000 in
theorem lp_Ix_size {C : CT} {l : Launch} {S : ShT} {d : Nat} (hC : OKC C l) (hS : SHP S) (hd : 0 ≤ d) {I : DI} {J : DJ} (hb : ∀ i, i < 16 → I 27 i = 0 ∨ I 27 i = 1)  : ∀ (n : Nat) (i : Nat) (x z : Int32) (a : Nat), x = nI i → z = nI a → i ≤ 16 → 16 < i + n → a = cnt (fun j => decide (I 27 j = 1)) i → V C l k_Ix_size (d, 0, 0) (PP (.int (nI (cnt (fun j => decide (I 27 j = 1)) 16))) S I J) 4 [(2, .int x), (1, .int z), (0, .ref 25)] [] S I J (0, 0) := by
  intro n
  induction n with
  | zero =>
    intro i x z a ex ez hi hf ea
    omega
  | succ n ih =>
    intro i x z a ex ez hi hf ea
    refine v_iload_n 0 d_Ix_size_4 rfl rfl rfl ?_
    refine v_bipush (v := 16) d_Ix_size_5 (by decide) rfl ?_
    refine v_icmp_ge (tgt := 33) d_Ix_size_7 (by decide) rfl (fun c1 => ?_) (fun c1 => ?_)
    · refine v_iload_n 1 d_Ix_size_33 rfl rfl rfl ?_
      refine v_iret d_Ix_size_34 rfl ?_
      have hi16 : i = 16 := by rcases Nat.lt_or_ge i 16 with h9 | h9; exact absurd c1 (by rw [ex]; exact nI_ge (b := 16) h9 (by decide)); omega
      subst hi16
      exact ⟨by rw [ez, ea], rfl, rfl, rfl⟩
    · have hlt : i < 16 := by rcases Nat.lt_or_ge i 16 with h9 | h9; exact h9; exact absurd (by rw [ex]; exact nI_le (a := 16) h9 (by omega)) c1
      refine v_iload_n 1 d_Ix_size_10 rfl rfl rfl ?_
      refine v_aload_n 2 d_Ix_size_11 rfl rfl rfl ?_
      refine v_getr (r := 27) d_Ix_size_12 fl_Ix_17 (hS.o (by decide) rfl) rfl (hS.r (by decide) rfl) rfl ?_
      refine v_iload_n 0 d_Ix_size_15 rfl rfl rfl ?_
      refine v_zald (j := i) d_Ix_size_16 (hS.a (t := 33) (n := 16) (by decide) rfl) ex (by omega) (by decide) rfl ?_
      refine v_if_eq (tgt := 24) d_Ix_size_17 (by decide) rfl (fun c2 => ?_) (fun c2 => ?_)
      · refine v_iconst (v := 0) d_Ix_size_24 (by decide) rfl ?_
        refine v_iadd d_Ix_size_25 rfl ?_
        refine v_nmi (fun z3 ez3 => ?_)
        have nz3 : z3 = nI (a + 0) := by rw [ez3, show z = nI a from ez, show 0 = nI 0 from rfl]; exact nI_add _ _
        refine v_istore_n (L' := [(1, .int z3), (2, .int x), (0, .ref 25)]) d_Ix_size_26 rfl (by decide) rfl rfl ?_
        obtain ⟨x4, ex4⟩ : ∃ y : Int32, y = x + 1 := ⟨_, rfl⟩
        have nx4 : x4 = nI (i + 1) := by rw [ex4, ex]; exact nI_1 _
        refine v_iinc (n := 1) (v := x4) (L' := [(2, .int x4), (1, .int z3), (0, .ref 25)]) d_Ix_size_27 rfl (by rw [ex4]; rfl) (by decide) rfl rfl ?_
        refine v_goto (tgt := 4) d_Ix_size_30 (by decide) ?_
        exact ih _ _ _ _ nx4 nz3 (by omega) (by omega) (by unfold cnt; rw [ea]; first | (simp_all [bI]; done) | (rcases hb i hlt with h9 | h9 <;> simp_all))
      · refine v_iconst (v := 1) d_Ix_size_20 (by decide) rfl ?_
        refine v_goto (tgt := 25) d_Ix_size_21 (by decide) ?_
        refine v_iadd d_Ix_size_25 rfl ?_
        refine v_nmi (fun z5 ez5 => ?_)
        have nz5 : z5 = nI (a + 1) := by rw [ez5, show z = nI a from ez, show 1 = nI 1 from rfl]; exact nI_add _ _
        refine v_istore_n (L' := [(1, .int z5), (2, .int x), (0, .ref 25)]) d_Ix_size_26 rfl (by decide) rfl rfl ?_
        obtain ⟨x6, ex6⟩ : ∃ y : Int32, y = x + 1 := ⟨_, rfl⟩
        have nx6 : x6 = nI (i + 1) := by rw [ex6, ex]; exact nI_1 _
        refine v_iinc (n := 1) (v := x6) (L' := [(2, .int x6), (1, .int z5), (0, .ref 25)]) d_Ix_size_27 rfl (by rw [ex6]; rfl) (by decide) rfl rfl ?_
        refine v_goto (tgt := 4) d_Ix_size_30 (by decide) ?_
        exact ih _ _ _ _ nx6 nz5 (by omega) (by omega) (by unfold cnt; rw [ea]; first | (simp_all [bI]; done) | (rcases hb i hlt with h9 | h9 <;> simp_all))
set_option maxHeartbeats 4000000 in
set_option maxRecDepth 100000 in
theorem c_Ix_size {C : CT} {l : Launch} {S : ShT} {I : DI} {J : DJ} {d : Nat} (hC : OKC C l) (hS : SHP S) (hb : ∀ i, i < 16 → I 27 i = 0 ∨ I 27 i = 1) (hd : 0 ≤ d) : Sp C l k_Ix_size y_Ix_size (d, 0, 0) [.ref 25] S I J (PP (.int (nI (cnt (fun j => decide (I 27 j = 1)) 16))) S I J) := by
  refine Sp.of hC cd_Ix_size (Nat.le_of_ble_eq_true rfl) ?_
  show V C l k_Ix_size (d, 0, 0) _ 0 [(0, .ref 25)] [] S I J (0, 0)
  refine v_iconst (v := 0) d_Ix_size_0 (by decide) rfl ?_
  refine v_istore_n (L' := [(1, .int 0), (0, .ref 25)]) d_Ix_size_1 rfl (by decide) rfl rfl ?_
  refine v_iconst (v := 0) d_Ix_size_2 (by decide) rfl ?_
  refine v_istore_n (L' := [(2, .int 0), (1, .int 0), (0, .ref 25)]) d_Ix_size_3 rfl (by decide) rfl rfl ?_
  exact lp_Ix_size hC hS hd hb 17 0 0 0 0 rfl rfl (by omega) (by omega) rfl
end
section
/-- up from the node a, at most k steps: does f come? -/
def wup (P : Nat → Int32) (f : Int32) : Nat → Nat → Bool
  | 0, _ => false
  | k + 1, a => if a = 0 then false else if P a = f then true else wup P f k (P a).toNatClampNeg
theorem wup_s (P : Nat → Int32) (f : Int32) (k a : Nat) : wup P f (k + 1) a = if a = 0 then false else if P a = f then true else wup P f k (P a).toNatClampNeg := rfl
set_option maxHeartbeats 4000000 in
set_option maxRecDepth 100000 in
theorem lp_Tr_isWithin {C : CT} {l : Launch} {S : ShT} {d : Nat} (hC : OKC C l) (hS : SHP S) (hd : 0 ≤ d) {I : DI} {J : DJ} {v f : Int32} {w : Bool} (hP : ∀ i, i < 16 → ∃ j, j < 16 ∧ I 3 i = nI j) : ∀ (n : Nat) (i : Nat) (x y : Int32) (a : Nat), x = nI i → y = nI a → i ≤ 16 → a < 16 → 16 < i + n → w = wup (I 3) f (16 - i) a → V C l k_Tr_isWithin (d, 0, 0) (PP (.int (bI w)) S I J) 15 [(4, .int x), (3, .int y), (0, .ref 1), (1, .int v), (2, .int f)] [] S I J (0, 0) := by
  intro n
  induction n with
  | zero =>
    intro i x y a ex ey hi ha hf hw
    omega
  | succ n ih =>
    intro i x y a ex ey hi ha hf hw
    refine v_iload 0 d_Tr_isWithin_15 rfl rfl ?_
    refine v_bipush (v := 16) d_Tr_isWithin_17 (by decide) rfl ?_
    refine v_icmp_ge (tgt := 46) d_Tr_isWithin_19 (by decide) rfl (fun c1 => ?_) (fun c1 => ?_)
    · refine v_iconst (v := 0) d_Tr_isWithin_46 (by decide) rfl ?_
      refine v_zret d_Tr_isWithin_47 rfl (Or.inl rfl) ?_
      first
        | (have hi16 : i = 16 := by rcases Nat.lt_or_ge i 16 with h9 | h9; exact absurd c1 (by rw [ex]; exact nI_ge (b := 16) h9 (by decide)); omega
           subst hi16
           exact ⟨by rw [hw]; rfl, rfl, rfl, rfl⟩)
        | (have ha0 : a = 0 := by have h9 := c2; rw [ey] at h9; exact (nI_eq (b := 0) (by omega) (by decide)).mp h9
           have hlt : i < 16 := by rcases Nat.lt_or_ge i 16 with h9 | h9; exact h9; exact absurd (by rw [ex]; exact nI_le (a := 16) h9 (by omega)) c1
           exact ⟨by rw [hw, show 16 - i = (16 - (i + 1)) + 1 by omega, wup_s, if_pos ha0]; rfl, rfl, rfl, rfl⟩)
    · refine v_iload_n 1 d_Tr_isWithin_22 rfl rfl rfl ?_
      refine v_if_eq (tgt := 46) d_Tr_isWithin_23 (by decide) rfl (fun c2 => ?_) (fun c2 => ?_)
      · refine v_iconst (v := 0) d_Tr_isWithin_46 (by decide) rfl ?_
        refine v_zret d_Tr_isWithin_47 rfl (Or.inl rfl) ?_
        first
          | (have hi16 : i = 16 := by rcases Nat.lt_or_ge i 16 with h9 | h9; exact absurd c1 (by rw [ex]; exact nI_ge (b := 16) h9 (by decide)); omega
             subst hi16
             exact ⟨by rw [hw]; rfl, rfl, rfl, rfl⟩)
          | (have ha0 : a = 0 := by have h9 := c2; rw [ey] at h9; exact (nI_eq (b := 0) (by omega) (by decide)).mp h9
             have hlt : i < 16 := by rcases Nat.lt_or_ge i 16 with h9 | h9; exact h9; exact absurd (by rw [ex]; exact nI_le (a := 16) h9 (by omega)) c1
             exact ⟨by rw [hw, show 16 - i = (16 - (i + 1)) + 1 by omega, wup_s, if_pos ha0]; rfl, rfl, rfl, rfl⟩)
      · have hlt : i < 16 := by rcases Nat.lt_or_ge i 16 with h9 | h9; exact h9; exact absurd (by rw [ex]; exact nI_le (a := 16) h9 (by omega)) c1
        have ha0 : ¬ a = 0 := fun h9 => c2 (by rw [ey, h9]; rfl)
        obtain ⟨b, hb, eb⟩ := hP a ha
        refine v_aload_n 2 d_Tr_isWithin_26 rfl rfl rfl ?_
        refine v_getr (r := 3) d_Tr_isWithin_27 fl_Tr_15 (hS.o (by decide) rfl) rfl (hS.r (by decide) rfl) rfl ?_
        refine v_iload_n 1 d_Tr_isWithin_30 rfl rfl rfl ?_
        refine v_iald (j := a) d_Tr_isWithin_31 (hS.a (t := 32) (n := 16) (by decide) rfl) ey (by omega) (by decide) rfl ?_
        refine v_istore_n (L' := [(3, .int (I 3 a)), (4, .int x), (0, .ref 1), (1, .int v), (2, .int f)]) d_Tr_isWithin_32 rfl (by decide) rfl rfl ?_
        refine v_iload_n 0 d_Tr_isWithin_33 rfl rfl rfl ?_
        refine v_iload_n 4 d_Tr_isWithin_34 rfl rfl rfl ?_
        refine v_icmp_ne (tgt := 40) d_Tr_isWithin_35 (by decide) rfl (fun c3 => ?_) (fun c3 => ?_)
        · obtain ⟨x4, ex4⟩ : ∃ y : Int32, y = x + 1 := ⟨_, rfl⟩
          have nx4 : x4 = nI (i + 1) := by rw [ex4, ex]; exact nI_1 _
          refine v_iinc (n := 1) (v := x4) (L' := [(4, .int x4), (3, .int (I 3 a)), (0, .ref 1), (1, .int v), (2, .int f)]) d_Tr_isWithin_40 rfl (by rw [ex4]; rfl) (by decide) rfl rfl ?_
          refine v_goto (tgt := 15) d_Tr_isWithin_43 (by decide) ?_
          exact ih _ _ _ b nx4 eb (by omega) hb (by omega) (by rw [hw, show 16 - i = (16 - (i + 1)) + 1 by omega, wup_s, if_neg ha0, if_neg c3, eb, nI_clamp (by omega)])
        · refine v_iconst (v := 1) d_Tr_isWithin_38 (by decide) rfl ?_
          refine v_zret d_Tr_isWithin_39 rfl (Or.inr rfl) ?_
          exact ⟨by rw [hw, show 16 - i = (16 - (i + 1)) + 1 by omega, wup_s, if_neg ha0, if_pos c3]; rfl, rfl, rfl, rfl⟩
set_option maxHeartbeats 4000000 in
set_option maxRecDepth 100000 in
theorem c_Tr_isWithin {C : CT} {l : Launch} {S : ShT} {I : DI} {J : DJ} {d : Nat} (hC : OKC C l) (hS : SHP S) (hP : ∀ i, i < 16 → ∃ j, j < 16 ∧ I 3 i = nI j) (x f : Int32) (hd : 2 ≤ d) : Sp C l k_Tr_isWithin y_Tr_isWithin (d, 0, 0) [.ref 1, .int x, .int f] S I J (PP (.int (bI (!decide (ndS I x = 0) && wup (I 3) f 16 x.toNatClampNeg))) S I J) := by
  refine Sp.of hC cd_Tr_isWithin (Nat.le_of_ble_eq_true rfl) ?_
  show V C l k_Tr_isWithin (d, 0, 0) _ 0 [(0, .ref 1), (1, .int x), (2, .int f)] [] S I J (0, 0)
  refine v_aload_n 0 d_Tr_isWithin_0 rfl rfl rfl ?_
  refine v_iload_n 1 d_Tr_isWithin_1 rfl rfl rfl ?_
  refine v_cVp (as := [.int x]) d_Tr_isWithin_2 cs_Tr_30 (c_Tr_isThere hC hS (d := d - 1) x (by omega)) (hS.o (by decide) rfl) (by decide) rfl rfl rfl (by decide) (by omega) rfl ?_
  refine v_if_ne (tgt := 10) d_Tr_isWithin_5 (by decide) rfl (fun c1 => ?_) (fun c1 => ?_)
  · have hx0 : ¬ ndS I x = 0 := by intro h9; rw [h9] at c1; exact c1 rfl
    obtain ⟨j, hj, rfl⟩ : ∃ j, j < 16 ∧ x = nI j := by rcases hb : isNd x with _ | _; exact absurd (ndS_n hb) hx0; exact isNd_j hb
    refine v_iload_n 1 d_Tr_isWithin_10 rfl rfl rfl ?_
    refine v_istore_n (L' := [(3, .int (nI j)), (0, .ref 1), (1, .int (nI j)), (2, .int f)]) d_Tr_isWithin_11 rfl (by decide) rfl rfl ?_
    refine v_iconst (v := 0) d_Tr_isWithin_12 (by decide) rfl ?_
    refine v_istore (L' := [(4, .int 0), (3, .int (nI j)), (0, .ref 1), (1, .int (nI j)), (2, .int f)]) d_Tr_isWithin_13 (by decide) rfl rfl ?_
    rw [show (!decide (ndS I (nI j) = 0)) = true by simpa using hx0, Bool.true_and, nI_clamp (by omega)]
    exact lp_Tr_isWithin hC hS (by omega) hP 17 0 _ _ j rfl rfl (by omega) hj (by omega) rfl
  · refine v_iconst (v := 0) d_Tr_isWithin_8 (by decide) rfl ?_
    refine v_zret d_Tr_isWithin_9 rfl (Or.inl rfl) ?_
    have h9 : ndS I x = 0 := by by_cases h8 : ndS I x = 0; exact h8; simp [h8, bI] at c1
    exact ⟨by rw [h9]; rfl, rfl, rfl, rfl⟩
/-- where the title ends: the first ; from k on, else n -/
def tiE (f : Nat → Int32) (n : Nat) : Nat := if n = 0 then 0 else if f 0 = 35 then plc f 59 0 n else 0
theorem tiE_le (f : Nat → Int32) (n : Nat) : tiE f n ≤ n := by
  unfold tiE
  by_cases h : n = 0
  · rw [if_pos h]; omega
  · rw [if_neg h]
    by_cases h2 : f 0 = 35
    · rw [if_pos h2]; have := (plc_le f 59 n 0).2; omega
    · rw [if_neg h2]; omega
set_option maxHeartbeats 4000000 in
set_option maxRecDepth 100000 in
theorem lp_En_titleEndOf {C : CT} {l : Launch} {S : ShT} {d : Nat} (hC : OKC C l) (hS : SHP S) (hd : 0 ≤ d) {I : DI} {J : DJ} {i m w : Nat} (hi : i < 16) (hm : m ≤ 60) : ∀ (n : Nat) (k : Nat) (x : Int32), x = nI k → k ≤ m → m < k + n → w = plc (I (5 + i)) 59 k (m - k) → V C l k_En_titleEndOf (d, 0, 0) (PP (.int (nI w)) S I J) 16 [(2, .int x), (0, .ref (5 + i)), (1, .int (nI m))] [] S I J (0, 0) := by
  intro n
  induction n with
  | zero =>
    intro k x ex hk hf hw
    omega
  | succ n ih =>
    intro k x ex hk hf hw
    refine v_iload_n 0 d_En_titleEndOf_16 rfl rfl rfl ?_
    refine v_iload_n 2 d_En_titleEndOf_17 rfl rfl rfl ?_
    refine v_icmp_ge (tgt := 37) d_En_titleEndOf_18 (by decide) rfl (fun c1 => ?_) (fun c1 => ?_)
    · refine v_iload_n 2 d_En_titleEndOf_37 rfl rfl rfl ?_
      refine v_iret d_En_titleEndOf_38 rfl ?_
      have hkm : k = m := by rcases Nat.lt_or_ge k m with h9 | h9; exact absurd c1 (by rw [ex]; exact nI_ge h9 (by omega)); omega
      exact ⟨by rw [hw, hkm, Nat.sub_self]; rfl, rfl, rfl, rfl⟩
    · have hlt : k < m := by rcases Nat.lt_or_ge k m with h9 | h9; exact h9; exact absurd (by rw [ex]; exact nI_le h9 (by omega)) c1
      refine v_aload_n 1 d_En_titleEndOf_21 rfl rfl rfl ?_
      refine v_iload_n 0 d_En_titleEndOf_22 rfl rfl rfl ?_
      refine v_iald (j := k) d_En_titleEndOf_23 (hS.co hi) ex (by omega) (by decide) rfl ?_
      refine v_bipush (v := 59) d_En_titleEndOf_24 (by decide) rfl ?_
      refine v_icmp_ne (tgt := 31) d_En_titleEndOf_26 (by decide) rfl (fun c2 => ?_) (fun c2 => ?_)
      · obtain ⟨x3, ex3⟩ : ∃ y : Int32, y = x + 1 := ⟨_, rfl⟩
        have nx3 : x3 = nI (k + 1) := by rw [ex3, ex]; exact nI_1 _
        refine v_iinc (n := 0) (v := x3) (L' := [(2, .int x3), (0, .ref (5 + i)), (1, .int (nI m))]) d_En_titleEndOf_31 rfl (by rw [ex3]; rfl) (by decide) rfl rfl ?_
        refine v_goto (tgt := 16) d_En_titleEndOf_34 (by decide) ?_
        exact ih _ _ nx3 (by omega) (by omega) (by rw [hw, show m - k = (m - (k + 1)) + 1 by omega, plc_s, if_neg c2])
      · refine v_iload_n 0 d_En_titleEndOf_29 rfl rfl rfl ?_
        refine v_iret d_En_titleEndOf_30 rfl ?_
        exact ⟨by rw [hw, show m - k = (m - (k + 1)) + 1 by omega, plc_s, if_pos c2, ex], rfl, rfl, rfl⟩
set_option maxHeartbeats 4000000 in
set_option maxRecDepth 100000 in
theorem c_En_titleEndOf {C : CT} {l : Launch} {S : ShT} {I : DI} {J : DJ} {d : Nat} (hC : OKC C l) (hS : SHP S) {i m : Nat} (hi : i < 16) (hm : m ≤ 60) (hd : 0 ≤ d) : Sp C l k_En_titleEndOf y_En_titleEndOf (d, 0, 0) [.ref (5 + i), .int (nI m)] S I J (PP (.int (nI (tiE (I (5 + i)) m))) S I J) := by
  refine Sp.of hC cd_En_titleEndOf (Nat.le_of_ble_eq_true rfl) ?_
  show V C l k_En_titleEndOf (d, 0, 0) _ 0 [(0, .ref (5 + i)), (1, .int (nI m))] [] S I J (0, 0)
  refine v_iload_n 1 d_En_titleEndOf_0 rfl rfl rfl ?_
  refine v_if_eq (tgt := 12) d_En_titleEndOf_1 (by decide) rfl (fun c1 => ?_) (fun c1 => ?_)
  · refine v_iconst (v := 0) d_En_titleEndOf_12 (by decide) rfl ?_
    refine v_iret d_En_titleEndOf_13 rfl ?_
    first | (have h9 : m = 0 := (nI_eq (b := 0) (by omega) (by decide)).mp c1; subst h9; exact ⟨rfl, rfl, rfl, rfl⟩) | (have h9 : ¬ m = 0 := fun h => c1 (by rw [h]; rfl); exact ⟨by unfold tiE; rw [if_neg h9, if_neg c2]; rfl, rfl, rfl, rfl⟩)
  · have hm0 : ¬ m = 0 := fun h => c1 (by rw [h]; rfl)
    refine v_aload_n 0 d_En_titleEndOf_4 rfl rfl rfl ?_
    refine v_iconst (v := 0) d_En_titleEndOf_5 (by decide) rfl ?_
    refine v_iald (j := 0) d_En_titleEndOf_6 (hS.co hi) rfl (by omega) (by decide) rfl ?_
    refine v_bipush (v := 35) d_En_titleEndOf_7 (by decide) rfl ?_
    refine v_icmp_eq (tgt := 14) d_En_titleEndOf_9 (by decide) rfl (fun c2 => ?_) (fun c2 => ?_)
    · refine v_iconst (v := 0) d_En_titleEndOf_14 (by decide) rfl ?_
      refine v_istore_n (L' := [(2, .int 0), (0, .ref (5 + i)), (1, .int (nI m))]) d_En_titleEndOf_15 rfl (by decide) rfl rfl ?_
      unfold tiE
      rw [if_neg hm0, if_pos c2]
      exact lp_En_titleEndOf hC hS hd hi hm (m + 1) 0 _ rfl (by omega) (by omega) rfl
    · refine v_iconst (v := 0) d_En_titleEndOf_12 (by decide) rfl ?_
      refine v_iret d_En_titleEndOf_13 rfl ?_
      first | (have h9 : m = 0 := (nI_eq (b := 0) (by omega) (by decide)).mp c1; subst h9; exact ⟨rfl, rfl, rfl, rfl⟩) | (have h9 : ¬ m = 0 := fun h => c1 (by rw [h]; rfl); exact ⟨by unfold tiE; rw [if_neg h9, if_neg c2]; rfl, rfl, rfl, rfl⟩)
end
section
/-! ===== READING: the longest runs of letters ===== -/
def scn (c : Nat → Int32) (n : Nat) : Nat → List (Nat × Nat) × Nat
  | 0 => ([], 0)
  | i + 1 => if 0 < (if isLt (c i) then (scn c n i).2 + 1 else (scn c n i).2) ∧ (i + 1 = n ∨ isLt (c (i + 1)) = false)
    then ((scn c n i).1 ++ [(i + 1 - (if isLt (c i) then (scn c n i).2 + 1 else (scn c n i).2), i + 1)], 0)
    else ((scn c n i).1, if isLt (c i) then (scn c n i).2 + 1 else (scn c n i).2)
theorem scn_s (c : Nat → Int32) (n i : Nat) : scn c n (i + 1) = if 0 < (if isLt (c i) then (scn c n i).2 + 1 else (scn c n i).2) ∧ (i + 1 = n ∨ isLt (c (i + 1)) = false)
    then ((scn c n i).1 ++ [(i + 1 - (if isLt (c i) then (scn c n i).2 + 1 else (scn c n i).2), i + 1)], 0)
    else ((scn c n i).1, if isLt (c i) then (scn c n i).2 + 1 else (scn c n i).2) := rfl
theorem scn_inv (c : Nat → Int32) (n : Nat) : ∀ k, k ≤ n → 2 * (scn c n k).1.length ≤ k + 1 ∧ (0 < (scn c n k).2 → 2 * (scn c n k).1.length + (scn c n k).2 ≤ k ∧ (k < n → isLt (c k) = true)) ∧ (2 * (scn c n k).1.length = k + 1 → k = n ∨ isLt (c k) = false)
  | 0, _ => ⟨by simp [scn], by simp [scn], by simp [scn]⟩
  | k + 1, hk => by
    obtain ⟨h1, h2, h3⟩ := scn_inv c n k (by omega)
    rw [scn_s]
    generalize hp : scn c n k = p at h1 h2 h3
    obtain ⟨ws, l⟩ := p
    simp only at h1 h2 h3 ⊢
    by_cases hL : isLt (c k) = true
    · rw [hL]
      simp only [if_true]
      by_cases hr : k + 1 = n ∨ isLt (c (k + 1)) = false
      · rw [if_pos ⟨by omega, hr⟩]
        simp only [List.length_append, List.length_singleton]
        refine ⟨?_, by omega, fun _ => hr⟩
        rcases Nat.eq_zero_or_pos l with h0 | h0
        · by_cases h9 : 2 * ws.length = k + 1
          · rcases h3 h9 with h8 | h8
            · omega
            · rw [hL] at h8; cases h8
          · omega
        · have := (h2 h0).1; omega
      · rw [if_neg (fun h => hr h.2)]
        simp only
        have h7 : 2 * ws.length + l ≤ k := by
          rcases Nat.eq_zero_or_pos l with h0 | h0
          · by_cases h9 : 2 * ws.length = k + 1
            · rcases h3 h9 with h8 | h8
              · omega
              · rw [hL] at h8; cases h8
            · omega
          · exact (h2 h0).1
        refine ⟨by omega, fun _ => ⟨by omega, fun hn => ?_⟩, fun h9 => by omega⟩
        cases hq : isLt (c (k + 1))
        · exact absurd (Or.inr hq) hr
        · rfl
    · have hL' : isLt (c k) = false := by cases h : isLt (c k); rfl; exact absurd h hL
      rw [hL']
      simp only [Bool.false_eq_true, if_false]
      have h0 : l = 0 := by
        rcases Nat.eq_zero_or_pos l with h0 | h0
        · exact h0
        · have := (h2 h0).2 (by omega)
          rw [hL'] at this; cases this
      subst h0
      rw [if_neg (fun h => absurd h.1 (by omega))]
      exact ⟨by simp only; omega, fun h => absurd h (by simp only; omega), fun h9 => by simp only at h9; omega⟩
/-- the class's word of the first l letters from s on -/
def wC (c : Nat → Int32) (s : Nat) : Nat → Int64
  | 0 => 0
  | l + 1 => if l < 8 then wiLe (wC c s l) (nI l) (c (s + l)) else wC c s l
theorem wC_s (c : Nat → Int32) (s l : Nat) : wC c s (l + 1) = if l < 8 then wiLe (wC c s l) (nI l) (c (s + l)) else wC c s l := rfl
/-- the state of Entry.take at its loop's head: k characters are behind it -/
def TkI (I0 : DI) (J0 : DJ) (i m T k : Nat) (I : DI) (J : DJ) : Prop :=
  I (28 + 3 * i) 2 = nI (scn (I0 (5 + i)) m k).1.length ∧ (∀ j s e, (scn (I0 (5 + i)) m k).1[j]? = some (s, e) → J (29 + 3 * i) j = wC (I0 (5 + i)) s (e - s) ∧ I (30 + 3 * i) j = if s < T then 3 else 1) ∧
  (∀ b, b ≠ 28 + 3 * i → b ≠ 30 + 3 * i → I b = I0 b) ∧ (∀ b, b ≠ 29 + 3 * i → J b = J0 b)
theorem TkI.add {I0 : DI} {J0 : DJ} {i m T k : Nat} {I : DI} {J : DJ} (h : TkI I0 J0 i m T k I J) (hi : i < 16) {q : Nat} (hq : q = if isLt (I0 (5 + i) k) then (scn (I0 (5 + i)) m k).2 + 1 else (scn (I0 (5 + i)) m k).2) (h0 : 0 < q) (hr : k + 1 = m ∨ isLt (I0 (5 + i) (k + 1)) = false) {x : Int32} (hx : x = if k + 1 - q < T then 3 else 1) (hqk : q ≤ k + 1) :
    TkI I0 J0 i m T (k + 1) (u2 (u2 I (30 + 3 * i) (scn (I0 (5 + i)) m k).1.length x) (28 + 3 * i) 2 (nI ((scn (I0 (5 + i)) m k).1.length + 1))) (u2 J (29 + 3 * i) (scn (I0 (5 + i)) m k).1.length (wC (I0 (5 + i)) (k + 1 - q) q)) ∧ (scn (I0 (5 + i)) m (k + 1)).2 = 0 := by
  obtain ⟨h1, h2, h3, h4⟩ := h
  have hs : scn (I0 (5 + i)) m (k + 1) = ((scn (I0 (5 + i)) m k).1 ++ [(k + 1 - q, k + 1)], 0) := by
    rw [scn_s, ← hq, if_pos ⟨h0, hr⟩]
  refine ⟨⟨?_, fun j s e hj => ?_, fun b b1 b2 => ?_, fun b b1 => ?_⟩, by rw [hs]⟩
  · rw [u2_s, hs]
    simp
  · rw [hs] at hj
    simp only at hj
    by_cases hl : j < (scn (I0 (5 + i)) m k).1.length
    · rw [List.getElem?_append_left hl] at hj
      rw [u2_n (Or.inr (by omega)), u2_n (Or.inl (by omega)), u2_n (Or.inr (by omega))]
      exact h2 j s e hj
    · rw [List.getElem?_append_right (by omega)] at hj
      have hz : j - (scn (I0 (5 + i)) m k).1.length < 1 := (List.getElem?_eq_some_iff.mp hj).1
      have hj2 : j = (scn (I0 (5 + i)) m k).1.length := by omega
      rw [show j - (scn (I0 (5 + i)) m k).1.length = 0 by omega] at hj
      cases hj
      rw [hj2, u2_s, u2_n (Or.inl (by omega)), u2_s]
      exact ⟨by rw [show k + 1 - (k + 1 - q) = q by omega], hx⟩
  · rw [u2_o b1, u2_o b2]
    exact h3 b b1 b2
  · rw [u2_o b1]
    exact h4 b b1
theorem TkI.go {I0 : DI} {J0 : DJ} {i m T k : Nat} {I : DI} {J : DJ} (h : TkI I0 J0 i m T k I J) {q : Nat} (hq : q = if isLt (I0 (5 + i) k) then (scn (I0 (5 + i)) m k).2 + 1 else (scn (I0 (5 + i)) m k).2) (hn : ¬ (0 < q ∧ (k + 1 = m ∨ isLt (I0 (5 + i) (k + 1)) = false))) : TkI I0 J0 i m T (k + 1) I J ∧ (scn (I0 (5 + i)) m (k + 1)).2 = q := by
  have hs : scn (I0 (5 + i)) m (k + 1) = ((scn (I0 (5 + i)) m k).1, q) := by
    rw [scn_s, ← hq, if_neg hn]
  unfold TkI
  rw [hs]
  exact ⟨h, rfl⟩
end
section
set_option maxHeartbeats 4000000 in
set_option maxRecDepth 100000 in
theorem lp3_En_take {C : CT} {l : Launch} {S : ShT} {d : Nat} (hC : OKC C l) (hS : SHP S) (hd : 2 ≤ d) {I0 : DI} {J0 : DJ} {i m T k : Nat} (hi : i < 16) (hm : m ≤ 60) (hk : k < m) {q : Nat} (hq : q = if isLt (I0 (5 + i) k) then (scn (I0 (5 + i)) m k).2 + 1 else (scn (I0 (5 + i)) m k).2) (ih : ∀ (I : DI) (J : DJ), TkI I0 J0 i m T (k + 1) I J → V C l k_En_take (d, 0, 0) (PW S (TkI I0 J0 i m T m)) 20 [(7, .int (nI (k + 1))), (5, .long (wC (I0 (5 + i)) (k + 1 - (scn (I0 (5 + i)) m (k + 1)).2) (scn (I0 (5 + i)) m (k + 1)).2)), (4, .int (nI (scn (I0 (5 + i)) m (k + 1)).2)), (3, .int (nI T)), (0, .ref (28 + 3 * i)), (1, .ref (5 + i)), (2, .int (nI m))] [] S I J (0, 0)) {I : DI} {J : DJ} (hT : TkI I0 J0 i m T k I J) {re : Bool} (hTm : T ≤ m) (hre : (re = true) = (k + 1 = m ∨ isLt (I0 (5 + i) (k + 1)) = false)) : V C l k_En_take (d, 0, 0) (PW S (TkI I0 J0 i m T m)) 86 [(8, .int (bI re)), (7, .int (nI k)), (5, .long (wC (I0 (5 + i)) (k + 1 - q) q)), (4, .int (nI q)), (3, .int (nI T)), (0, .ref (28 + 3 * i)), (1, .ref (5 + i)), (2, .int (nI m))] [] S I J (0, 0) := by
  have hqk : q ≤ k + 1 := by have h9 := (scn_inv (I0 (5 + i)) m k (by omega)).2.1; rcases Nat.eq_zero_or_pos (scn (I0 (5 + i)) m k).2 with h8 | h8; (rw [hq, h8]; split <;> omega); have := (h9 h8).1; rw [hq]; split <;> omega
  have hcI : I (5 + i) = I0 (5 + i) := hT.2.2.1 (5 + i) (by omega) (by omega)
  refine v_iload 3 d_En_take_86 rfl rfl ?_
  refine v_if_le (tgt := 124) d_En_take_88 (by decide) rfl (fun c1 => ?_) (fun c1 => ?_)
  · have hn0 : ¬ 0 < q := fun h9 => absurd c1 (nI_nle h9 (by omega))
    obtain ⟨x2, ex2⟩ : ∃ y : Int32, y = (nI k) + 1 := ⟨_, rfl⟩
    have nx2 : x2 = nI (k + 1) := by rw [ex2, show nI k = nI k from rfl]; exact nI_1 _
    refine v_iinc (n := 1) (v := x2) (L' := [(7, .int x2), (8, .int (bI re)), (5, .long (wC (I0 (5 + i)) (k + 1 - q) q)), (4, .int (nI q)), (3, .int (nI T)), (0, .ref (28 + 3 * i)), (1, .ref (5 + i)), (2, .int (nI m))]) d_En_take_124 rfl (by rw [ex2]; rfl) (by decide) rfl rfl ?_
    refine v_goto (tgt := 20) d_En_take_127 (by decide) ?_
    refine v_sub (L' := [(7, .int x2), (5, .long (wC (I0 (5 + i)) (k + 1 - q) q)), (4, .int (nI q)), (3, .int (nI T)), (0, .ref (28 + 3 * i)), (1, .ref (5 + i)), (2, .int (nI m))]) [0, 2, 3, 4, 5, 6, 7] rfl ?_
    obtain ⟨g1, g2⟩ := hT.go hq (by first | exact fun h8 => absurd h8.1 hn0 | exact fun h8 => hnr h8.2)
    have h9 := ih _ _ g1
    rw [g2] at h9
    rw [nx2]
    exact h9
  · have h0 : 0 < q := by rcases Nat.eq_zero_or_pos q with h9 | h9; exact absurd (by rw [h9]; exact Int32.le_refl _) c1; exact h9
    refine v_iload 0 d_En_take_91 rfl rfl ?_
    refine v_if_eq (tgt := 124) d_En_take_93 (by decide) rfl (fun c3 => ?_) (fun c3 => ?_)
    · have hnr : ¬ (k + 1 = m ∨ isLt (I0 (5 + i) (k + 1)) = false) := by rw [← hre]; intro h9; rw [h9] at c3; exact absurd c3 (by decide)
      obtain ⟨x4, ex4⟩ : ∃ y : Int32, y = (nI k) + 1 := ⟨_, rfl⟩
      have nx4 : x4 = nI (k + 1) := by rw [ex4, show nI k = nI k from rfl]; exact nI_1 _
      refine v_iinc (n := 1) (v := x4) (L' := [(7, .int x4), (8, .int (bI re)), (5, .long (wC (I0 (5 + i)) (k + 1 - q) q)), (4, .int (nI q)), (3, .int (nI T)), (0, .ref (28 + 3 * i)), (1, .ref (5 + i)), (2, .int (nI m))]) d_En_take_124 rfl (by rw [ex4]; rfl) (by decide) rfl rfl ?_
      refine v_goto (tgt := 20) d_En_take_127 (by decide) ?_
      refine v_sub (L' := [(7, .int x4), (5, .long (wC (I0 (5 + i)) (k + 1 - q) q)), (4, .int (nI q)), (3, .int (nI T)), (0, .ref (28 + 3 * i)), (1, .ref (5 + i)), (2, .int (nI m))]) [0, 2, 3, 4, 5, 6, 7] rfl ?_
      obtain ⟨g1, g2⟩ := hT.go hq (by first | exact fun h8 => absurd h8.1 hn0 | exact fun h8 => hnr h8.2)
      have h9 := ih _ _ g1
      rw [g2] at h9
      rw [nx4]
      exact h9
    · have hr : k + 1 = m ∨ isLt (I0 (5 + i) (k + 1)) = false := by rw [← hre]; cases re; exact absurd rfl c3; rfl
      refine v_aload_n 5 d_En_take_96 rfl rfl rfl ?_
      refine v_lload 2 d_En_take_97 rfl rfl ?_
      refine v_iload 1 d_En_take_99 rfl rfl ?_
      refine v_iconst (v := 1) d_En_take_101 (by decide) rfl ?_
      refine v_iadd d_En_take_102 rfl ?_
      refine v_nmi (fun z5 ez5 => ?_)
      have nz5 : z5 = nI (k + 1) := by rw [ez5, show nI k = nI k from rfl, show 1 = nI 1 from rfl]; exact nI_add _ _
      refine v_iload 3 d_En_take_103 rfl rfl ?_
      refine v_isub d_En_take_105 rfl ?_
      refine v_nmi (fun z6 ez6 => ?_)
      have nz6 : z6 = nI ((k + 1) - q) := by rw [ez6, show z5 = nI (k + 1) from nz5, show nI q = nI q from rfl]; exact pk_sub (by omega)
      refine v_iload_n 4 d_En_take_106 rfl rfl rfl ?_
      refine v_icmp_ge (tgt := 114) d_En_take_107 (by decide) rfl (fun c7 => ?_) (fun c7 => ?_)
      · have hwt : ¬ k + 1 - q < T := fun h9 => absurd c7 (by rw [nz6]; exact nI_ge h9 (by omega))
        refine v_iconst (v := 1) d_En_take_114 (by decide) rfl ?_
        refine v_cVw (as := [.long (wC (I0 (5 + i)) (k + 1 - q) q), .int 1]) d_En_take_115 cs_En_35 (c_En_add hC hS (d := d - 1) (n := (scn (I0 (5 + i)) m k).1.length) hi hT.1 (by have h9 := (scn_inv (I0 (5 + i)) m (k + 1) (by omega)).1; rw [scn_s, ← hq, if_pos ⟨h0, hr⟩] at h9; simp only [List.length_append, List.length_singleton] at h9; omega) (wC (I0 (5 + i)) (k + 1 - q) q) 1 (by omega)) (hS.en hi) (by decide) rfl rfl rfl (by decide) (by omega) rfl (fun I8 J9 h10 => ?_)
        refine v_iconst (v := 0) d_En_take_118 (by decide) rfl ?_
        refine v_istore (L' := [(4, .int 0), (8, .int (bI re)), (7, .int (nI k)), (5, .long (wC (I0 (5 + i)) (k + 1 - q) q)), (3, .int (nI T)), (0, .ref (28 + 3 * i)), (1, .ref (5 + i)), (2, .int (nI m))]) d_En_take_119 (by decide) rfl rfl ?_
        refine v_lconst (v := 0) d_En_take_121 rfl rfl ?_
        refine v_lstore (L' := [(5, .long 0), (4, .int 0), (8, .int (bI re)), (7, .int (nI k)), (3, .int (nI T)), (0, .ref (28 + 3 * i)), (1, .ref (5 + i)), (2, .int (nI m))]) d_En_take_122 (by decide) rfl rfl ?_
        obtain ⟨x11, ex11⟩ : ∃ y : Int32, y = (nI k) + 1 := ⟨_, rfl⟩
        have nx11 : x11 = nI (k + 1) := by rw [ex11, show nI k = nI k from rfl]; exact nI_1 _
        refine v_iinc (n := 3) (v := x11) (L' := [(7, .int x11), (5, .long 0), (4, .int 0), (8, .int (bI re)), (3, .int (nI T)), (0, .ref (28 + 3 * i)), (1, .ref (5 + i)), (2, .int (nI m))]) d_En_take_124 rfl (by rw [ex11]; rfl) (by decide) rfl rfl ?_
        refine v_goto (tgt := 20) d_En_take_127 (by decide) ?_
        refine v_sub (L' := [(7, .int x11), (5, .long 0), (4, .int 0), (3, .int (nI T)), (0, .ref (28 + 3 * i)), (1, .ref (5 + i)), (2, .int (nI m))]) [0, 1, 2, 4, 5, 6, 7] rfl ?_
        obtain ⟨e1, e2⟩ := h10
        subst e1
        subst e2
        obtain ⟨g1, g2⟩ := hT.add hi hq h0 hr (x := 1) (by rw [if_neg hwt]) hqk
        have h9 := ih _ _ g1
        rw [g2] at h9
        rw [nx11]
        exact h9
      · have hwt : k + 1 - q < T := by rcases Nat.lt_or_ge (k + 1 - q) T with h9 | h9; exact h9; exact absurd (by rw [nz6]; exact nI_le h9 (by omega)) c7
        refine v_iconst (v := 3) d_En_take_110 (by decide) rfl ?_
        refine v_goto (tgt := 115) d_En_take_111 (by decide) ?_
        refine v_cVw (as := [.long (wC (I0 (5 + i)) (k + 1 - q) q), .int 3]) d_En_take_115 cs_En_35 (c_En_add hC hS (d := d - 1) (n := (scn (I0 (5 + i)) m k).1.length) hi hT.1 (by have h9 := (scn_inv (I0 (5 + i)) m (k + 1) (by omega)).1; rw [scn_s, ← hq, if_pos ⟨h0, hr⟩] at h9; simp only [List.length_append, List.length_singleton] at h9; omega) (wC (I0 (5 + i)) (k + 1 - q) q) 3 (by omega)) (hS.en hi) (by decide) rfl rfl rfl (by decide) (by omega) rfl (fun I12 J13 h14 => ?_)
        refine v_iconst (v := 0) d_En_take_118 (by decide) rfl ?_
        refine v_istore (L' := [(4, .int 0), (8, .int (bI re)), (7, .int (nI k)), (5, .long (wC (I0 (5 + i)) (k + 1 - q) q)), (3, .int (nI T)), (0, .ref (28 + 3 * i)), (1, .ref (5 + i)), (2, .int (nI m))]) d_En_take_119 (by decide) rfl rfl ?_
        refine v_lconst (v := 0) d_En_take_121 rfl rfl ?_
        refine v_lstore (L' := [(5, .long 0), (4, .int 0), (8, .int (bI re)), (7, .int (nI k)), (3, .int (nI T)), (0, .ref (28 + 3 * i)), (1, .ref (5 + i)), (2, .int (nI m))]) d_En_take_122 (by decide) rfl rfl ?_
        obtain ⟨x15, ex15⟩ : ∃ y : Int32, y = (nI k) + 1 := ⟨_, rfl⟩
        have nx15 : x15 = nI (k + 1) := by rw [ex15, show nI k = nI k from rfl]; exact nI_1 _
        refine v_iinc (n := 3) (v := x15) (L' := [(7, .int x15), (5, .long 0), (4, .int 0), (8, .int (bI re)), (3, .int (nI T)), (0, .ref (28 + 3 * i)), (1, .ref (5 + i)), (2, .int (nI m))]) d_En_take_124 rfl (by rw [ex15]; rfl) (by decide) rfl rfl ?_
        refine v_goto (tgt := 20) d_En_take_127 (by decide) ?_
        refine v_sub (L' := [(7, .int x15), (5, .long 0), (4, .int 0), (3, .int (nI T)), (0, .ref (28 + 3 * i)), (1, .ref (5 + i)), (2, .int (nI m))]) [0, 1, 2, 4, 5, 6, 7] rfl ?_
        obtain ⟨e1, e2⟩ := h14
        subst e1
        subst e2
        obtain ⟨g1, g2⟩ := hT.add hi hq h0 hr (x := 3) (by rw [if_pos hwt]) hqk
        have h9 := ih _ _ g1
        rw [g2] at h9
        rw [nx15]
        exact h9
set_option maxHeartbeats 4000000 in
set_option maxRecDepth 100000 in
theorem lp2_En_take {C : CT} {l : Launch} {S : ShT} {d : Nat} (hC : OKC C l) (hS : SHP S) (hd : 2 ≤ d) {I0 : DI} {J0 : DJ} {i m T k : Nat} (hi : i < 16) (hm : m ≤ 60) (hk : k < m) {q : Nat} (hq : q = if isLt (I0 (5 + i) k) then (scn (I0 (5 + i)) m k).2 + 1 else (scn (I0 (5 + i)) m k).2) (ih : ∀ (I : DI) (J : DJ), TkI I0 J0 i m T (k + 1) I J → V C l k_En_take (d, 0, 0) (PW S (TkI I0 J0 i m T m)) 20 [(7, .int (nI (k + 1))), (5, .long (wC (I0 (5 + i)) (k + 1 - (scn (I0 (5 + i)) m (k + 1)).2) (scn (I0 (5 + i)) m (k + 1)).2)), (4, .int (nI (scn (I0 (5 + i)) m (k + 1)).2)), (3, .int (nI T)), (0, .ref (28 + 3 * i)), (1, .ref (5 + i)), (2, .int (nI m))] [] S I J (0, 0)) {I : DI} {J : DJ} (hT : TkI I0 J0 i m T k I J) (hTm : T ≤ m) : V C l k_En_take (d, 0, 0) (PW S (TkI I0 J0 i m T m)) 59 [(7, .int (nI k)), (5, .long (wC (I0 (5 + i)) (k + 1 - q) q)), (4, .int (nI q)), (3, .int (nI T)), (0, .ref (28 + 3 * i)), (1, .ref (5 + i)), (2, .int (nI m))] [] S I J (0, 0) := by
  have hqk : q ≤ k + 1 := by have h9 := (scn_inv (I0 (5 + i)) m k (by omega)).2.1; rcases Nat.eq_zero_or_pos (scn (I0 (5 + i)) m k).2 with h8 | h8; (rw [hq, h8]; split <;> omega); have := (h9 h8).1; rw [hq]; split <;> omega
  have hcI : I (5 + i) = I0 (5 + i) := hT.2.2.1 (5 + i) (by omega) (by omega)
  refine v_iload 0 d_En_take_59 rfl rfl ?_
  refine v_iconst (v := 1) d_En_take_61 (by decide) rfl ?_
  refine v_iadd d_En_take_62 rfl ?_
  refine v_nmi (fun z1 ez1 => ?_)
  have nz1 : z1 = nI (k + 1) := by rw [ez1, show nI k = nI k from rfl, show 1 = nI 1 from rfl]; exact nI_add _ _
  refine v_iload_n 6 d_En_take_63 rfl rfl rfl ?_
  refine v_icmp_eq (tgt := 79) d_En_take_64 (by decide) rfl (fun c2 => ?_) (fun c2 => ?_)
  · have hkm : k + 1 = m := by have h9 := c2; rw [nz1] at h9; exact (nI_eq (by omega) (by omega)).mp h9
    refine v_iconst (v := 1) d_En_take_79 (by decide) rfl ?_
    refine v_goto (tgt := 84) d_En_take_80 (by decide) ?_
    refine v_istore (L' := [(8, .int 1), (7, .int (nI k)), (5, .long (wC (I0 (5 + i)) (k + 1 - q) q)), (4, .int (nI q)), (3, .int (nI T)), (0, .ref (28 + 3 * i)), (1, .ref (5 + i)), (2, .int (nI m))]) d_En_take_84 (by decide) rfl rfl ?_
    refine v_sub (L' := [(8, .int 1), (7, .int (nI k)), (5, .long (wC (I0 (5 + i)) (k + 1 - q) q)), (4, .int (nI q)), (3, .int (nI T)), (0, .ref (28 + 3 * i)), (1, .ref (5 + i)), (2, .int (nI m))]) [0, 1, 2, 3, 4, 5, 6, 7] rfl ?_
    exact lp3_En_take hC hS hd hi hm hk hq ih hT (re := true) hTm (by simp [hkm])
  · have hkm : ¬ k + 1 = m := fun h9 => c2 (by rw [nz1, h9])
    refine v_aload_n 5 d_En_take_67 rfl rfl rfl ?_
    refine v_iload 0 d_En_take_68 rfl rfl ?_
    refine v_iconst (v := 1) d_En_take_70 (by decide) rfl ?_
    refine v_iadd d_En_take_71 rfl ?_
    refine v_nmi (fun z3 ez3 => ?_)
    have nz3 : z3 = nI (k + 1) := by rw [ez3, show nI k = nI k from rfl, show 1 = nI 1 from rfl]; exact nI_add _ _
    refine v_iald (j := (k + 1)) d_En_take_72 (hS.co hi) nz3 (by omega) (by decide) rfl ?_
    refine v_cNp (as := [.int (I (5 + i) (k + 1))]) d_En_take_73 cs_En_27 (c_Fi_isLetter hC (d := d - 1) (I (5 + i) (k + 1)) (by omega)) rfl rfl (by decide) (by omega) rfl ?_
    refine v_if_ne (tgt := 83) d_En_take_76 (by decide) rfl (fun c4 => ?_) (fun c4 => ?_)
    · have hnl : isLt (I0 (5 + i) (k + 1)) = true := by have h9 := c4; rw [hcI] at h9; cases h8 : isLt (I0 (5 + i) (k + 1)); rw [h8] at h9; exact absurd rfl h9; rfl
      refine v_iconst (v := 0) d_En_take_83 (by decide) rfl ?_
      refine v_istore (L' := [(8, .int 0), (7, .int (nI k)), (5, .long (wC (I0 (5 + i)) (k + 1 - q) q)), (4, .int (nI q)), (3, .int (nI T)), (0, .ref (28 + 3 * i)), (1, .ref (5 + i)), (2, .int (nI m))]) d_En_take_84 (by decide) rfl rfl ?_
      refine v_sub (L' := [(8, .int 0), (7, .int (nI k)), (5, .long (wC (I0 (5 + i)) (k + 1 - q) q)), (4, .int (nI q)), (3, .int (nI T)), (0, .ref (28 + 3 * i)), (1, .ref (5 + i)), (2, .int (nI m))]) [0, 1, 2, 3, 4, 5, 6, 7] rfl ?_
      exact lp3_En_take hC hS hd hi hm hk hq ih hT (re := false) hTm (by simp [hkm, hnl])
    · have hnl : isLt (I0 (5 + i) (k + 1)) = false := by have h9 := c4; rw [hcI] at h9; cases h8 : isLt (I0 (5 + i) (k + 1)); rfl; rw [h8] at h9; exact absurd h9 (by decide)
      refine v_iconst (v := 1) d_En_take_79 (by decide) rfl ?_
      refine v_goto (tgt := 84) d_En_take_80 (by decide) ?_
      refine v_istore (L' := [(8, .int 1), (7, .int (nI k)), (5, .long (wC (I0 (5 + i)) (k + 1 - q) q)), (4, .int (nI q)), (3, .int (nI T)), (0, .ref (28 + 3 * i)), (1, .ref (5 + i)), (2, .int (nI m))]) d_En_take_84 (by decide) rfl rfl ?_
      refine v_sub (L' := [(8, .int 1), (7, .int (nI k)), (5, .long (wC (I0 (5 + i)) (k + 1 - q) q)), (4, .int (nI q)), (3, .int (nI T)), (0, .ref (28 + 3 * i)), (1, .ref (5 + i)), (2, .int (nI m))]) [0, 1, 2, 3, 4, 5, 6, 7] rfl ?_
      exact lp3_En_take hC hS hd hi hm hk hq ih hT (re := true) hTm (by simp [hkm, hnl])

set_option maxHeartbeats 4000000 in
set_option maxRecDepth 100000 in
theorem lp1_En_take {C : CT} {l : Launch} {S : ShT} {d : Nat} (hC : OKC C l) (hS : SHP S) (hd : 2 ≤ d) {I0 : DI} {J0 : DJ} {i m T k : Nat} (hi : i < 16) (hm : m ≤ 60) (hk : k < m) (ih : ∀ (I : DI) (J : DJ), TkI I0 J0 i m T (k + 1) I J → V C l k_En_take (d, 0, 0) (PW S (TkI I0 J0 i m T m)) 20 [(7, .int (nI (k + 1))), (5, .long (wC (I0 (5 + i)) (k + 1 - (scn (I0 (5 + i)) m (k + 1)).2) (scn (I0 (5 + i)) m (k + 1)).2)), (4, .int (nI (scn (I0 (5 + i)) m (k + 1)).2)), (3, .int (nI T)), (0, .ref (28 + 3 * i)), (1, .ref (5 + i)), (2, .int (nI m))] [] S I J (0, 0)) {I : DI} {J : DJ} (hT : TkI I0 J0 i m T k I J) (hTm : T ≤ m) : V C l k_En_take (d, 0, 0) (PW S (TkI I0 J0 i m T m)) 20 [(7, .int (nI k)), (5, .long (wC (I0 (5 + i)) (k - (scn (I0 (5 + i)) m k).2) (scn (I0 (5 + i)) m k).2)), (4, .int (nI (scn (I0 (5 + i)) m k).2)), (3, .int (nI T)), (0, .ref (28 + 3 * i)), (1, .ref (5 + i)), (2, .int (nI m))] [] S I J (0, 0) := by
  have hcI : I (5 + i) = I0 (5 + i) := hT.2.2.1 (5 + i) (by omega) (by omega)
  refine v_iload 0 d_En_take_20 rfl rfl ?_
  refine v_iload_n 6 d_En_take_22 rfl rfl rfl ?_
  refine v_icmp_ge (tgt := 130) d_En_take_23 (by decide) rfl (fun c1 => ?_) (fun c1 => ?_)
  · exact absurd c1 (nI_ge hk (by omega))
  · refine v_aload_n 5 d_En_take_26 rfl rfl rfl ?_
    refine v_iload 0 d_En_take_27 rfl rfl ?_
    refine v_iald (j := k) d_En_take_29 (hS.co hi) rfl (by omega) (by decide) rfl ?_
    refine v_cNp (as := [.int (I (5 + i) k)]) d_En_take_30 cs_En_27 (c_Fi_isLetter hC (d := d - 1) (I (5 + i) k) (by omega)) rfl rfl (by decide) (by omega) rfl ?_
    refine v_if_eq (tgt := 59) d_En_take_33 (by decide) rfl (fun c2 => ?_) (fun c2 => ?_)
    · have hL : isLt (I0 (5 + i) k) = false := by have h9 := c2; rw [hcI] at h9; cases h8 : isLt (I0 (5 + i) k); rfl; rw [h8] at h9; exact absurd h9 (by decide)
      refine v_sub (L' := [(7, .int (nI k)), (5, .long (wC (I0 (5 + i)) (k - (scn (I0 (5 + i)) m k).2) (scn (I0 (5 + i)) m k).2)), (4, .int (nI (scn (I0 (5 + i)) m k).2)), (3, .int (nI T)), (0, .ref (28 + 3 * i)), (1, .ref (5 + i)), (2, .int (nI m))]) [0, 1, 2, 3, 4, 5, 6] rfl ?_
      have h0 : (scn (I0 (5 + i)) m k).2 = 0 := by rcases Nat.eq_zero_or_pos (scn (I0 (5 + i)) m k).2 with h9 | h9; exact h9; have h7 := ((scn_inv (I0 (5 + i)) m k (by omega)).2.1 h9).2 hk; rw [hL] at h7; cases h7
      have h9 := lp2_En_take hC hS hd hi hm hk (q := 0) (by rw [hL, h0]; rfl) ih hT hTm
      rw [h0]
      exact h9
    · have hL : isLt (I0 (5 + i) k) = true := by have h9 := c2; rw [hcI] at h9; cases h8 : isLt (I0 (5 + i) k); rw [h8] at h9; exact absurd rfl h9; rfl
      have hsk : (scn (I0 (5 + i)) m k).2 ≤ k := by rcases Nat.eq_zero_or_pos (scn (I0 (5 + i)) m k).2 with h9 | h9; omega; have := ((scn_inv (I0 (5 + i)) m k (by omega)).2.1 h9).1; omega
      refine v_iload 2 d_En_take_36 rfl rfl ?_
      refine v_bipush (v := 8) d_En_take_38 (by decide) rfl ?_
      refine v_icmp_ge (tgt := 56) d_En_take_40 (by decide) rfl (fun c3 => ?_) (fun c3 => ?_)
      · have h8 : ¬ (scn (I0 (5 + i)) m k).2 < 8 := fun h9 => absurd c3 (nI_ge (b := 8) h9 (by decide))
        obtain ⟨x4, ex4⟩ : ∃ y : Int32, y = (nI (scn (I0 (5 + i)) m k).2) + 1 := ⟨_, rfl⟩
        have nx4 : x4 = nI ((scn (I0 (5 + i)) m k).2 + 1) := by rw [ex4, show nI (scn (I0 (5 + i)) m k).2 = nI (scn (I0 (5 + i)) m k).2 from rfl]; exact nI_1 _
        refine v_iinc (n := 2) (v := x4) (L' := [(4, .int x4), (7, .int (nI k)), (5, .long (wC (I0 (5 + i)) (k - (scn (I0 (5 + i)) m k).2) (scn (I0 (5 + i)) m k).2)), (3, .int (nI T)), (0, .ref (28 + 3 * i)), (1, .ref (5 + i)), (2, .int (nI m))]) d_En_take_56 rfl (by rw [ex4]; rfl) (by decide) rfl rfl ?_
        refine v_sub (L' := [(7, .int (nI k)), (5, .long (wC (I0 (5 + i)) (k - (scn (I0 (5 + i)) m k).2) (scn (I0 (5 + i)) m k).2)), (4, .int x4), (3, .int (nI T)), (0, .ref (28 + 3 * i)), (1, .ref (5 + i)), (2, .int (nI m))]) [1, 2, 0, 3, 4, 5, 6] rfl ?_
        have h9 := lp2_En_take hC hS hd hi hm hk (q := (scn (I0 (5 + i)) m k).2 + 1) (by rw [hL]; rfl) ih hT hTm
        rw [show k + 1 - ((scn (I0 (5 + i)) m k).2 + 1) = k - (scn (I0 (5 + i)) m k).2 by omega, wC_s] at h9
        rw [nx4]
        rw [if_neg h8] at h9
        exact h9
      · have h8 : (scn (I0 (5 + i)) m k).2 < 8 := by rcases Nat.lt_or_ge (scn (I0 (5 + i)) m k).2 8 with h9 | h9; exact h9; exact absurd (nI_le (a := 8) h9 (by omega)) c3
        refine v_lload 1 d_En_take_43 rfl rfl ?_
        refine v_iload 2 d_En_take_45 rfl rfl ?_
        refine v_aload_n 5 d_En_take_47 rfl rfl rfl ?_
        refine v_iload 0 d_En_take_48 rfl rfl ?_
        refine v_iald (j := k) d_En_take_50 (hS.co hi) rfl (by omega) (by decide) rfl ?_
        refine v_cNp (as := [.long (wC (I0 (5 + i)) (k - (scn (I0 (5 + i)) m k).2) (scn (I0 (5 + i)) m k).2), .int (nI (scn (I0 (5 + i)) m k).2), .int (I (5 + i) k)]) d_En_take_51 cs_En_31 (c_Fi_withLetter hC (d := d - 1) (wC (I0 (5 + i)) (k - (scn (I0 (5 + i)) m k).2) (scn (I0 (5 + i)) m k).2) (nI (scn (I0 (5 + i)) m k).2) (I (5 + i) k) (by omega)) rfl rfl (by decide) (by omega) rfl ?_
        refine v_lstore (L' := [(5, .long (wiLe (wC (I0 (5 + i)) (k - (scn (I0 (5 + i)) m k).2) (scn (I0 (5 + i)) m k).2) (nI (scn (I0 (5 + i)) m k).2) (I (5 + i) k))), (7, .int (nI k)), (4, .int (nI (scn (I0 (5 + i)) m k).2)), (3, .int (nI T)), (0, .ref (28 + 3 * i)), (1, .ref (5 + i)), (2, .int (nI m))]) d_En_take_54 (by decide) rfl rfl ?_
        obtain ⟨x5, ex5⟩ : ∃ y : Int32, y = (nI (scn (I0 (5 + i)) m k).2) + 1 := ⟨_, rfl⟩
        have nx5 : x5 = nI ((scn (I0 (5 + i)) m k).2 + 1) := by rw [ex5, show nI (scn (I0 (5 + i)) m k).2 = nI (scn (I0 (5 + i)) m k).2 from rfl]; exact nI_1 _
        refine v_iinc (n := 2) (v := x5) (L' := [(4, .int x5), (5, .long (wiLe (wC (I0 (5 + i)) (k - (scn (I0 (5 + i)) m k).2) (scn (I0 (5 + i)) m k).2) (nI (scn (I0 (5 + i)) m k).2) (I (5 + i) k))), (7, .int (nI k)), (3, .int (nI T)), (0, .ref (28 + 3 * i)), (1, .ref (5 + i)), (2, .int (nI m))]) d_En_take_56 rfl (by rw [ex5]; rfl) (by decide) rfl rfl ?_
        refine v_sub (L' := [(7, .int (nI k)), (5, .long (wiLe (wC (I0 (5 + i)) (k - (scn (I0 (5 + i)) m k).2) (scn (I0 (5 + i)) m k).2) (nI (scn (I0 (5 + i)) m k).2) (I (5 + i) k))), (4, .int x5), (3, .int (nI T)), (0, .ref (28 + 3 * i)), (1, .ref (5 + i)), (2, .int (nI m))]) [2, 1, 0, 3, 4, 5, 6] rfl ?_
        have h9 := lp2_En_take hC hS hd hi hm hk (q := (scn (I0 (5 + i)) m k).2 + 1) (by rw [hL]; rfl) ih hT hTm
        rw [show k + 1 - ((scn (I0 (5 + i)) m k).2 + 1) = k - (scn (I0 (5 + i)) m k).2 by omega, wC_s] at h9
        rw [nx5]
        rw [if_pos h8, show k - (scn (I0 (5 + i)) m k).2 + (scn (I0 (5 + i)) m k).2 = k by omega] at h9
        rw [hcI]
        exact h9
set_option maxHeartbeats 4000000 in
set_option maxRecDepth 100000 in
theorem lp_En_take {C : CT} {l : Launch} {S : ShT} {d : Nat} (hC : OKC C l) (hS : SHP S) (hd : 2 ≤ d) {I0 : DI} {J0 : DJ} {i m T : Nat} (hi : i < 16) (hm : m ≤ 60) (hTm : T ≤ m) : ∀ (n k : Nat) (I : DI) (J : DJ), k ≤ m → m < k + n → TkI I0 J0 i m T k I J → V C l k_En_take (d, 0, 0) (PW S (TkI I0 J0 i m T m)) 20 [(7, .int (nI k)), (5, .long (wC (I0 (5 + i)) (k - (scn (I0 (5 + i)) m k).2) (scn (I0 (5 + i)) m k).2)), (4, .int (nI (scn (I0 (5 + i)) m k).2)), (3, .int (nI T)), (0, .ref (28 + 3 * i)), (1, .ref (5 + i)), (2, .int (nI m))] [] S I J (0, 0) := by
  intro n
  induction n with
  | zero =>
    intro k I J h1 h2
    omega
  | succ n ih =>
    intro k I J h1 h2 hT
    by_cases hk : k < m
    · exact lp1_En_take hC hS hd hi hm hk (fun I J h => ih (k + 1) I J (by omega) (by omega) h) hT hTm
    · have hkm : k = m := by omega
      subst hkm
      refine v_iload 0 d_En_take_20 rfl rfl ?_
      refine v_iload_n 6 d_En_take_22 rfl rfl rfl ?_
      refine v_icmp_ge (tgt := 130) d_En_take_23 (by decide) rfl (fun c1 => ?_) (fun c1 => ?_)
      · refine v_vret d_En_take_130 rfl ?_
        exact ⟨rfl, rfl, hT⟩
      · exact absurd (Int32.le_refl _) c1
set_option maxHeartbeats 4000000 in
set_option maxRecDepth 100000 in
theorem c_En_take {C : CT} {l : Launch} {S : ShT} {I : DI} {J : DJ} {d : Nat} (hC : OKC C l) (hS : SHP S) {i m : Nat} (hi : i < 16) (hm : m ≤ 60) (hd : 2 ≤ d) : Sp C l k_En_take y_En_take (d, 0, 0) [.ref (28 + 3 * i), .ref (5 + i), .int (nI m)] S I J (PW S (TkI I J i m (tiE (I (5 + i)) m) m)) := by
  refine Sp.of hC cd_En_take (Nat.le_of_ble_eq_true rfl) ?_
  show V C l k_En_take (d, 0, 0) _ 0 [(0, .ref (28 + 3 * i)), (1, .ref (5 + i)), (2, .int (nI m))] [] S I J (0, 0)
  refine v_aload_n 0 d_En_take_0 rfl rfl rfl ?_
  refine v_iconst (v := 0) d_En_take_1 (by decide) rfl ?_
  refine v_puti d_En_take_2 fl_En_19 (hS.en hi) rfl rfl rfl ?_
  generalize hI1 : u2 I (28 + 3 * i) 2 0 = I1
  refine v_aload_n 1 d_En_take_5 rfl rfl rfl ?_
  refine v_iload_n 2 d_En_take_6 rfl rfl rfl ?_
  refine v_cSp (as := [.ref (5 + i), .int (nI m)]) d_En_take_7 cs_En_23 (by have h9 := c_En_titleEndOf (C := C) (l := l) (S := S) (I := I1) (J := J) hC hS (d := d - 1) hi hm (by omega); exact h9) rfl rfl (by decide) (by omega) rfl ?_
  refine v_istore_n (L' := [(3, .int (nI (tiE (I1 (5 + i)) m))), (0, .ref (28 + 3 * i)), (1, .ref (5 + i)), (2, .int (nI m))]) d_En_take_10 rfl (by decide) rfl rfl ?_
  refine v_iconst (v := 0) d_En_take_11 (by decide) rfl ?_
  refine v_istore (L' := [(4, .int 0), (3, .int (nI (tiE (I1 (5 + i)) m))), (0, .ref (28 + 3 * i)), (1, .ref (5 + i)), (2, .int (nI m))]) d_En_take_12 (by decide) rfl rfl ?_
  refine v_lconst (v := 0) d_En_take_14 rfl rfl ?_
  refine v_lstore (L' := [(5, .long 0), (4, .int 0), (3, .int (nI (tiE (I1 (5 + i)) m))), (0, .ref (28 + 3 * i)), (1, .ref (5 + i)), (2, .int (nI m))]) d_En_take_15 (by decide) rfl rfl ?_
  refine v_iconst (v := 0) d_En_take_17 (by decide) rfl ?_
  refine v_istore (L' := [(7, .int 0), (5, .long 0), (4, .int 0), (3, .int (nI (tiE (I1 (5 + i)) m))), (0, .ref (28 + 3 * i)), (1, .ref (5 + i)), (2, .int (nI m))]) d_En_take_18 (by decide) rfl rfl ?_
  rw [show tiE (I1 (5 + i)) m = tiE (I (5 + i)) m by rw [← hI1, u2_o (by omega)]]
  exact lp_En_take hC hS hd hi hm (tiE_le _ _) (m + 1) 0 I1 J (by omega) (by omega) ⟨by rw [← hI1, u2_s]; rfl, fun j s e hj => by simp [scn] at hj, fun b b1 b2 => by rw [← hI1, u2_o b1], fun b _ => rfl⟩
end
section
set_option maxHeartbeats 4000000 in
set_option maxRecDepth 100000 in
theorem c_Ix_read {C : CT} {l : Launch} {S : ShT} {I : DI} {J : DJ} {d : Nat} (hC : OKC C l) (hS : SHP S) {j m : Nat} (hj : j < 16) (hm : m ≤ 60) (hd : 3 ≤ d) : Sp C l k_Ix_read y_Ix_read (d, 0, 0) [.ref 25, .int (nI j), .ref (5 + j), .int (nI m)] S I J (PW S (fun I' J' => ∃ I1, TkI I J j m (tiE (I (5 + j)) m) m I1 J' ∧ I' = u2 (u2 I1 27 j 1) 25 2 (I 25 2 + 1))) := by
  refine Sp.of hC cd_Ix_read (Nat.le_of_ble_eq_true rfl) ?_
  show V C l k_Ix_read (d, 0, 0) _ 0 [(0, .ref 25), (1, .int (nI j)), (2, .ref (5 + j)), (3, .int (nI m))] [] S I J (0, 0)
  refine v_aload_n 0 d_Ix_read_0 rfl rfl rfl ?_
  refine v_getr (r := 26) d_Ix_read_1 fl_Ix_11 (hS.o (by decide) rfl) rfl (hS.r (by decide) rfl) rfl ?_
  refine v_iload_n 1 d_Ix_read_4 rfl rfl rfl ?_
  refine v_aald (j := j) (r := (28 + 3 * j)) d_Ix_read_5 (hS.a (t := 35) (n := 16) (by decide) rfl) (by decide) rfl (by omega) (by decide) (hS.enR (by omega)) rfl ?_
  refine v_aload_n 2 d_Ix_read_6 rfl rfl rfl ?_
  refine v_iload_n 3 d_Ix_read_7 rfl rfl rfl ?_
  refine v_cVw (as := [.ref (5 + j), .int (nI m)]) d_Ix_read_8 cs_Ix_26 (c_En_take hC hS (d := d - 1) hj hm (by omega)) (hS.en hj) (by decide) rfl rfl rfl (by decide) (by omega) rfl (fun I1 J2 h3 => ?_)
  refine v_aload_n 0 d_Ix_read_11 rfl rfl rfl ?_
  refine v_getr (r := 27) d_Ix_read_12 fl_Ix_17 (hS.o (by decide) rfl) rfl (hS.r (by decide) rfl) rfl ?_
  refine v_iload_n 1 d_Ix_read_15 rfl rfl rfl ?_
  refine v_iconst (v := 1) d_Ix_read_16 (by decide) rfl ?_
  refine v_zast (j := j) d_Ix_read_17 (hS.a (t := 33) (n := 16) (by decide) rfl) rfl (by omega) (by decide) (Or.inr rfl) rfl ?_
  generalize hI4 : u2 I1 27 j 1 = I4
  refine v_aload_n 0 d_Ix_read_18 rfl rfl rfl ?_
  refine v_dup d_Ix_read_19 rfl rfl ?_
  refine v_geti d_Ix_read_20 fl_Ix_30 (hS.o (by decide) rfl) rfl rfl ?_
  refine v_iconst (v := 1) d_Ix_read_23 (by decide) rfl ?_
  refine v_iadd d_Ix_read_24 rfl ?_
  refine v_nmi (fun z5 ez5 => ?_)
  refine v_puti d_Ix_read_25 fl_Ix_30 (hS.o (by decide) rfl) rfl rfl rfl ?_
  generalize hI6 : u2 I4 25 2 z5 = I6
  refine v_vret d_Ix_read_28 rfl ?_
  refine ⟨rfl, rfl, I1, h3, ?_⟩
  subst_vars
  rw [u2_o (by decide), h3.2.2.1 25 (by omega) (by omega)]
/-- all of k places from t on -/
def alF (f : Nat → Bool) : Nat → Nat → Bool
  | _, 0 => true
  | t, k + 1 => f t && alF f (t + 1) k
theorem alF_s (f : Nat → Bool) (t k : Nat) : alF f t (k + 1) = (f t && alF f (t + 1) k) := rfl
theorem alF_iff (f : Nat → Bool) : ∀ k t, alF f t k = true ↔ ∀ j, t ≤ j → j < t + k → f j = true
  | 0, t => by simp [alF]; intro j h1 h2; omega
  | k + 1, t => by
    rw [alF_s, Bool.and_eq_true, alF_iff f k (t + 1)]
    constructor
    · rintro ⟨h1, h2⟩ j h3 h4
      by_cases e : j = t
      · rw [e]; exact h1
      · exact h2 j (by omega) (by omega)
    · intro h
      exact ⟨h t (Nat.le_refl _) (by omega), fun j h1 h2 => h j (by omega) (by omega)⟩
theorem lg_cmp_0 (x y : Int64) : lg_cmp x y = 0 ↔ x = y := by
  constructor
  · intro h
    have h1 : x ≤ y := (lg_cmp_le x y).mp (by rw [h]; exact Int32.le_refl _)
    have h2 : y ≤ x := (lg_cmp_ge x y).mp (by rw [h]; exact Int32.le_refl _)
    exact Int64.le_antisymm h1 h2
  · intro h
    unfold lg_cmp
    rw [h, if_neg (by simp), if_pos rfl]
/-- the term i hits the entry e at the place p -/
def hitB (J : DJ) (i e p t : Nat) : Bool := decide ((J (29 + 3 * e) (p + t) &&& J (79 + 2 * i) 4) = J (80 + 2 * i) t)
set_option maxHeartbeats 4000000 in
set_option maxRecDepth 100000 in
theorem lp_Tm_hits {C : CT} {l : Launch} {S : ShT} {d : Nat} (hC : OKC C l) (hS : SHP S) (hd : 1 ≤ d) {I : DI} {J : DJ} {i e p s m : Nat} (hi : i < 21) (he : e < 16) (hs4 : s ≤ 4) (hps : p + s ≤ m) (hm : m ≤ 30) (hs : I (79 + 2 * i) 1 = nI s) {w : Bool} : ∀ (n : Nat) (t : Nat) (x : Int32), x = nI t → t ≤ s → s < t + n → w = alF (hitB J i e p) t (s - t) → V C l k_Tm_hits (d, 0, 0) (PP (.int (bI w)) S I J) 2 [(3, .int x), (0, .ref (79 + 2 * i)), (1, .ref (28 + 3 * e)), (2, .int (nI p))] [] S I J (0, 0) := by
  intro n
  induction n with
  | zero =>
    intro t x ex ht hf hw
    omega
  | succ n ih =>
    intro t x ex ht hf hw
    refine v_iload_n 0 d_Tm_hits_2 rfl rfl rfl ?_
    refine v_aload_n 1 d_Tm_hits_3 rfl rfl rfl ?_
    refine v_geti d_Tm_hits_4 fl_Tm_15 (hS.tm hi) rfl rfl ?_
    refine v_icmp_ge (tgt := 40) d_Tm_hits_7 (by decide) rfl (fun c1 => ?_) (fun c1 => ?_)
    · refine v_iconst (v := 1) d_Tm_hits_40 (by decide) rfl ?_
      refine v_zret d_Tm_hits_41 rfl (Or.inr rfl) ?_
      have hts : t = s := by rcases Nat.lt_or_ge t s with h9 | h9; exact absurd c1 (by rw [hs, ex]; exact nI_ge h9 (by omega)); omega
      exact ⟨by rw [hw, hts, Nat.sub_self]; rfl, rfl, rfl, rfl⟩
    · have hlt : t < s := by rcases Nat.lt_or_ge t s with h9 | h9; exact h9; exact absurd (by rw [hs, ex]; exact nI_le h9 (by omega)) c1
      refine v_aload_n 2 d_Tm_hits_10 rfl rfl rfl ?_
      refine v_iload_n 3 d_Tm_hits_11 rfl rfl rfl ?_
      refine v_iload_n 0 d_Tm_hits_12 rfl rfl rfl ?_
      refine v_iadd d_Tm_hits_13 rfl ?_
      refine v_nmi (fun z2 ez2 => ?_)
      have nz2 : z2 = nI (p + t) := by rw [ez2, show nI p = nI p from rfl, show x = nI t from ex]; exact nI_add _ _
      refine v_cVp (as := [.int z2]) d_Tm_hits_14 cs_Tm_45 (by have h9 := c_En_wordAt (C := C) (l := l) (S := S) (I := I) (J := J) hC hS (d := d - 1) (i := e) (j := (p + t)) he (by omega) (by omega); rw [← show z2 = nI (p + t) from nz2] at h9; exact h9) (hS.en he) (by decide) rfl rfl rfl (by decide) (by omega) rfl ?_
      refine v_aload_n 1 d_Tm_hits_17 rfl rfl rfl ?_
      refine v_getl d_Tm_hits_18 fl_Tm_28 (hS.tm hi) rfl rfl ?_
      refine v_land d_Tm_hits_21 rfl ?_
      refine v_nml (fun z3 ez3 => ?_)
      refine v_aload_n 1 d_Tm_hits_22 rfl rfl rfl ?_
      refine v_getr (r := (80 + 2 * i)) d_Tm_hits_23 fl_Tm_9 (hS.tm hi) rfl (hS.tm0 hi) rfl ?_
      refine v_iload_n 0 d_Tm_hits_26 rfl rfl rfl ?_
      refine v_lald (j := t) d_Tm_hits_27 (hS.tmS hi) ex (by omega) (by decide) rfl ?_
      refine v_lcmp d_Tm_hits_28 rfl ?_
      refine v_nmi (fun z4 ez4 => ?_)
      refine v_if_eq (tgt := 34) d_Tm_hits_29 (by decide) rfl (fun c5 => ?_) (fun c5 => ?_)
      · obtain ⟨x6, ex6⟩ : ∃ y : Int32, y = x + 1 := ⟨_, rfl⟩
        have nx6 : x6 = nI (t + 1) := by rw [ex6, show x = nI t from ex]; exact nI_1 _
        refine v_iinc (n := 0) (v := x6) (L' := [(3, .int x6), (0, .ref (79 + 2 * i)), (1, .ref (28 + 3 * e)), (2, .int (nI p))]) d_Tm_hits_34 rfl (by rw [ex6]; rfl) (by decide) rfl rfl ?_
        refine v_goto (tgt := 2) d_Tm_hits_37 (by decide) ?_
        exact ih _ _ nx6 (by omega) (by omega) (by rw [hw, show s - t = (s - (t + 1)) + 1 by omega, alF_s, show hitB J i e p t = true by unfold hitB; simp only [decide_eq_true_eq]; rw [← ez3]; exact (lg_cmp_0 _ _).mp ((ez4).symm.trans c5), Bool.true_and])
      · refine v_iconst (v := 0) d_Tm_hits_32 (by decide) rfl ?_
        refine v_zret d_Tm_hits_33 rfl (Or.inl rfl) ?_
        exact ⟨by rw [hw, show s - t = (s - (t + 1)) + 1 by omega, alF_s, show hitB J i e p t = false by unfold hitB; simp only [decide_eq_false_iff_not]; intro h9; exact c5 ((ez4).trans ((lg_cmp_0 _ _).mpr (by rw [ez3, h9])))]; rfl, rfl, rfl, rfl⟩
set_option maxHeartbeats 4000000 in
set_option maxRecDepth 100000 in
theorem c_Tm_hits {C : CT} {l : Launch} {S : ShT} {I : DI} {J : DJ} {d : Nat} (hC : OKC C l) (hS : SHP S) {i e p s m : Nat} (hi : i < 21) (he : e < 16) (hs4 : s ≤ 4) (hps : p + s ≤ m) (hm : m ≤ 30) (hs : I (79 + 2 * i) 1 = nI s) (hd : 1 ≤ d) : Sp C l k_Tm_hits y_Tm_hits (d, 0, 0) [.ref (79 + 2 * i), .ref (28 + 3 * e), .int (nI p)] S I J (PP (.int (bI (alF (hitB J i e p) 0 s))) S I J) := by
  refine Sp.of hC cd_Tm_hits (Nat.le_of_ble_eq_true rfl) ?_
  show V C l k_Tm_hits (d, 0, 0) _ 0 [(0, .ref (79 + 2 * i)), (1, .ref (28 + 3 * e)), (2, .int (nI p))] [] S I J (0, 0)
  refine v_iconst (v := 0) d_Tm_hits_0 (by decide) rfl ?_
  refine v_istore_n (L' := [(3, .int 0), (0, .ref (79 + 2 * i)), (1, .ref (28 + 3 * e)), (2, .int (nI p))]) d_Tm_hits_1 rfl (by decide) rfl rfl ?_
  exact lp_Tm_hits hC hS hd hi he hs4 hps hm hs (s + 1) 0 _ rfl (by omega) (by omega) rfl
def sm (f : Nat → Int32) : Nat → Int32
  | 0 => 0
  | k + 1 => sm f k + f k
theorem sm_s (f : Nat → Int32) (k : Nat) : sm f (k + 1) = sm f k + f k := rfl
theorem sm_eq {f g : Nat → Int32} : ∀ k, (∀ j, j < k → f j = g j) → sm f k = sm g k
  | 0, _ => rfl
  | k + 1, h => by
    unfold sm
    rw [sm_eq k (fun j hj => h j (by omega)), h k (by omega)]
/-- what the place p adds to the term i's weight in the entry e -/
def wgt (I : DI) (J : DJ) (i e s p : Nat) : Int32 := if alF (hitB J i e p) 0 s then I (30 + 3 * e) p else 0
set_option maxHeartbeats 4000000 in
set_option maxRecDepth 100000 in
theorem lp_Tm_weightIn {C : CT} {l : Launch} {S : ShT} {d : Nat} (hC : OKC C l) (hS : SHP S) (hd : 2 ≤ d) {I : DI} {J : DJ} {i e s m : Nat} (hi : i < 21) (he : e < 16) (hs1 : 1 ≤ s) (hs4 : s ≤ 4) (hm : m ≤ 30) (hs : I (79 + 2 * i) 1 = nI s) (hn : I (28 + 3 * e) 2 = nI m) : ∀ (n : Nat) (p : Nat) (x z : Int32), x = nI p → p ≤ m + 1 - s → m + 1 - s < p + n → z = sm (wgt I J i e s) p → V C l k_Tm_weightIn (d, 0, 0) (PP (.int (sm (wgt I J i e s) (m + 1 - s))) S I J) 4 [(3, .int x), (2, .int z), (0, .ref (79 + 2 * i)), (1, .ref (28 + 3 * e))] [] S I J (0, 0) := by
  intro n
  induction n with
  | zero =>
    intro p x z ex hp hf hz
    omega
  | succ n ih =>
    intro p x z ex hp hf hz
    refine v_iload_n 0 d_Tm_weightIn_4 rfl rfl rfl ?_
    refine v_aload_n 2 d_Tm_weightIn_5 rfl rfl rfl ?_
    refine v_geti d_Tm_weightIn_6 fl_Tm_15 (hS.tm hi) rfl rfl ?_
    refine v_iadd d_Tm_weightIn_9 rfl ?_
    refine v_nmi (fun z1 ez1 => ?_)
    have nz1 : z1 = nI (p + s) := by rw [ez1, show x = nI p from ex, show I (79 + 2 * i) 1 = nI s from hs]; exact nI_add _ _
    refine v_aload_n 3 d_Tm_weightIn_10 rfl rfl rfl ?_
    refine v_cVp (as := []) d_Tm_weightIn_11 cs_Tm_32 (c_En_size hC hS (d := d - 1) (i := e) he (by omega)) (hS.en he) (by decide) rfl rfl rfl (by simp [Value.category]) (by omega) rfl ?_
    refine v_icmp_gt (tgt := 44) d_Tm_weightIn_14 (by decide) rfl (fun c2 => ?_) (fun c2 => ?_)
    · refine v_iload_n 1 d_Tm_weightIn_44 rfl rfl rfl ?_
      refine v_iret d_Tm_weightIn_45 rfl ?_
      have hpe : p = m + 1 - s := by rcases Nat.lt_or_ge m (p + s) with h9 | h9; omega; exact absurd c2 (by rw [nz1, hn]; exact nI_nlt h9 (by omega))
      exact ⟨by rw [hz, hpe], rfl, rfl, rfl⟩
    · have hps : p + s ≤ m := by rcases Nat.lt_or_ge m (p + s) with h9 | h9; exact absurd (by rw [nz1, hn]; exact nI_lt h9 (by omega)) c2; exact h9
      refine v_iload_n 1 d_Tm_weightIn_17 rfl rfl rfl ?_
      refine v_aload_n 2 d_Tm_weightIn_18 rfl rfl rfl ?_
      refine v_aload_n 3 d_Tm_weightIn_19 rfl rfl rfl ?_
      refine v_iload_n 0 d_Tm_weightIn_20 rfl rfl rfl ?_
      refine v_cVp (as := [.ref (28 + 3 * e), .int x]) d_Tm_weightIn_21 cs_Tm_37 (by have h9 := c_Tm_hits (C := C) (l := l) (S := S) (I := I) (J := J) hC hS (d := d - 1) (p := p) hi he hs4 hps hm hs (by omega); rw [← show x = nI p from ex] at h9; exact h9) (hS.tm hi) (by decide) rfl rfl rfl (by simp [Value.category]) (by omega) rfl ?_
      refine v_if_eq (tgt := 35) d_Tm_weightIn_24 (by decide) rfl (fun c3 => ?_) (fun c3 => ?_)
      · refine v_iconst (v := 0) d_Tm_weightIn_35 (by decide) rfl ?_
        refine v_iadd d_Tm_weightIn_36 rfl ?_
        refine v_nmi (fun z4 ez4 => ?_)
        refine v_istore_n (L' := [(2, .int z4), (3, .int x), (0, .ref (79 + 2 * i)), (1, .ref (28 + 3 * e))]) d_Tm_weightIn_37 rfl (by decide) rfl rfl ?_
        obtain ⟨x5, ex5⟩ : ∃ y : Int32, y = x + 1 := ⟨_, rfl⟩
        have nx5 : x5 = nI (p + 1) := by rw [ex5, show x = nI p from ex]; exact nI_1 _
        refine v_iinc (n := 1) (v := x5) (L' := [(3, .int x5), (2, .int z4), (0, .ref (79 + 2 * i)), (1, .ref (28 + 3 * e))]) d_Tm_weightIn_38 rfl (by rw [ex5]; rfl) (by decide) rfl rfl ?_
        refine v_goto (tgt := 4) d_Tm_weightIn_41 (by decide) ?_
        exact ih _ _ _ nx5 (by omega) (by omega) (by rw [ez4, hz, sm_s]; congr 1; unfold wgt; cases h8 : alF (hitB J i e p) 0 s <;> simp_all [bI])
      · refine v_aload_n 3 d_Tm_weightIn_27 rfl rfl rfl ?_
        refine v_iload_n 0 d_Tm_weightIn_28 rfl rfl rfl ?_
        refine v_cVp (as := [.int x]) d_Tm_weightIn_29 cs_Tm_41 (by have h9 := c_En_weightAt (C := C) (l := l) (S := S) (I := I) (J := J) hC hS (d := d - 1) (i := e) (j := p) he (by omega) (by omega); rw [← show x = nI p from ex] at h9; exact h9) (hS.en he) (by decide) rfl rfl rfl (by simp [Value.category]) (by omega) rfl ?_
        refine v_goto (tgt := 36) d_Tm_weightIn_32 (by decide) ?_
        refine v_iadd d_Tm_weightIn_36 rfl ?_
        refine v_nmi (fun z6 ez6 => ?_)
        refine v_istore_n (L' := [(2, .int z6), (3, .int x), (0, .ref (79 + 2 * i)), (1, .ref (28 + 3 * e))]) d_Tm_weightIn_37 rfl (by decide) rfl rfl ?_
        obtain ⟨x7, ex7⟩ : ∃ y : Int32, y = x + 1 := ⟨_, rfl⟩
        have nx7 : x7 = nI (p + 1) := by rw [ex7, show x = nI p from ex]; exact nI_1 _
        refine v_iinc (n := 1) (v := x7) (L' := [(3, .int x7), (2, .int z6), (0, .ref (79 + 2 * i)), (1, .ref (28 + 3 * e))]) d_Tm_weightIn_38 rfl (by rw [ex7]; rfl) (by decide) rfl rfl ?_
        refine v_goto (tgt := 4) d_Tm_weightIn_41 (by decide) ?_
        exact ih _ _ _ nx7 (by omega) (by omega) (by rw [ez6, hz, sm_s]; congr 1; unfold wgt; cases h8 : alF (hitB J i e p) 0 s <;> simp_all [bI])
set_option maxHeartbeats 4000000 in
set_option maxRecDepth 100000 in
theorem c_Tm_weightIn {C : CT} {l : Launch} {S : ShT} {I : DI} {J : DJ} {d : Nat} (hC : OKC C l) (hS : SHP S) {i e s m : Nat} (hi : i < 21) (he : e < 16) (hs1 : 1 ≤ s) (hs4 : s ≤ 4) (hm : m ≤ 30) (hs : I (79 + 2 * i) 1 = nI s) (hn : I (28 + 3 * e) 2 = nI m) (hd : 2 ≤ d) : Sp C l k_Tm_weightIn y_Tm_weightIn (d, 0, 0) [.ref (79 + 2 * i), .ref (28 + 3 * e)] S I J (PP (.int (sm (wgt I J i e s) (m + 1 - s))) S I J) := by
  refine Sp.of hC cd_Tm_weightIn (Nat.le_of_ble_eq_true rfl) ?_
  show V C l k_Tm_weightIn (d, 0, 0) _ 0 [(0, .ref (79 + 2 * i)), (1, .ref (28 + 3 * e))] [] S I J (0, 0)
  refine v_iconst (v := 0) d_Tm_weightIn_0 (by decide) rfl ?_
  refine v_istore_n (L' := [(2, .int 0), (0, .ref (79 + 2 * i)), (1, .ref (28 + 3 * e))]) d_Tm_weightIn_1 rfl (by decide) rfl rfl ?_
  refine v_iconst (v := 0) d_Tm_weightIn_2 (by decide) rfl ?_
  refine v_istore_n (L' := [(3, .int 0), (2, .int 0), (0, .ref (79 + 2 * i)), (1, .ref (28 + 3 * e))]) d_Tm_weightIn_3 rfl (by decide) rfl rfl ?_
  exact lp_Tm_weightIn hC hS hd hi he hs1 hs4 hm hs hn (m + 2) 0 _ _ rfl (by omega) (by omega) rfl
/-- places k + 1 .. n have taken their left neighbours' values -/
def shr (f : Nat → Int32) (k n : Nat) : Nat → Int32 := fun j => if k < j ∧ j ≤ n then f (j - 1) else f j
theorem shr_0 {f : Nat → Int32} {n : Nat} : shr f n n = f := by
  funext j
  unfold shr
  rw [if_neg (by omega)]
theorem shr_s {f : Nat → Int32} {k n : Nat} (h : k + 1 ≤ n) : (fun j => if j = k + 1 then f k else shr f (k + 1) n j) = shr f k n := by
  funext j
  unfold shr
  by_cases hj : j = k + 1
  · rw [if_pos hj, if_pos (by omega), hj]; rfl
  · rw [if_neg hj]
    by_cases h1 : k + 1 < j ∧ j ≤ n
    · rw [if_pos h1, if_pos (by omega)]
    · rw [if_neg h1, if_neg (by omega)]
/-- where a score goes in: behind all that aren't smaller -/
def pos (g : Nat → Int32) (y : Int32) : Nat → Nat
  | 0 => 0
  | k + 1 => if g k < y then pos g y k else k + 1
theorem pos_s (g : Nat → Int32) (y : Int32) (k : Nat) : pos g y (k + 1) = if g k < y then pos g y k else k + 1 := rfl
theorem pos_le (g : Nat → Int32) (y : Int32) : ∀ k, pos g y k ≤ k
  | 0 => Nat.le_refl _
  | k + 1 => by
    rw [pos_s]
    by_cases h : g k < y
    · rw [if_pos h]; have := pos_le g y k; omega
    · rw [if_neg h]; omega
theorem pos_eq {g h : Nat → Int32} (y : Int32) : ∀ k, (∀ j, j < k → g j = h j) → pos g y k = pos h y k
  | 0, _ => rfl
  | k + 1, e => by
    rw [pos_s, pos_s, e k (by omega), pos_eq y k (fun j hj => e j (by omega))]
/-- the value x put in at p, what stood from there to n one further -/
def ins (f : Nat → Int32) (p n : Nat) (x : Int32) : Nat → Int32 := fun j => if j = p then x else shr f p n j
set_option maxHeartbeats 4000000 in
set_option maxRecDepth 100000 in
theorem lp_Rk_add {C : CT} {l : Launch} {S : ShT} {d : Nat} (hC : OKC C l) (hS : SHP S) (hd : 0 ≤ d) {I0 : DI} {J : DJ} {m : Nat} {x y : Int32} (hm15 : m < 16) (hm : I0 121 2 = nI m) : ∀ (n : Nat) (k : Nat) (I : DI) (z : Int32), z = nI k → k ≤ m → k < n → I 122 = shr (I0 122) k m → I 123 = shr (I0 123) k m → (∀ j, I 121 j = I0 121 j) → (∀ b, b ≠ 121 → b ≠ 122 → b ≠ 123 → I b = I0 b) → pos (I0 123) y m = pos (I0 123) y k → V C l k_Rk_add (d, 0, 0) (PU S J (fun I' => I' 122 = ins (I0 122) (pos (I0 123) y m) m x ∧ I' 123 = ins (I0 123) (pos (I0 123) y m) m y ∧ I' 121 2 = nI (m + 1) ∧ (∀ j, j ≠ 2 → I' 121 j = I0 121 j) ∧ ∀ b, b ≠ 121 → b ≠ 122 → b ≠ 123 → I' b = I0 b)) 5 [(3, .int z), (0, .ref 121), (1, .int x), (2, .int y)] [] S I J (0, 0) := by
  intro n
  induction n with
  | zero =>
    intro k I z ez hk hf h1 h2 h3 h4 hpo
    omega
  | succ n ih =>
    intro k I z ez hk hf h1 h2 h3 h4 hpo
    refine v_iload_n 0 d_Rk_add_5 rfl rfl rfl ?_
    refine v_if_le (tgt := 55) d_Rk_add_6 (by decide) rfl (fun c1 => ?_) (fun c1 => ?_)
    · refine v_aload_n 1 d_Rk_add_55 rfl rfl rfl ?_
      refine v_getr (r := 122) d_Rk_add_56 fl_Rk_9 (hS.o (by decide) rfl) rfl (hS.r (by decide) rfl) rfl ?_
      refine v_iload_n 0 d_Rk_add_59 rfl rfl rfl ?_
      refine v_iload_n 2 d_Rk_add_60 rfl rfl rfl ?_
      refine v_iast (j := k) d_Rk_add_61 (hS.a (t := 32) (n := 16) (by decide) rfl) ez (by omega) (by decide) rfl ?_
      generalize hI2 : u2 I 122 k x = I2
      refine v_aload_n 1 d_Rk_add_62 rfl rfl rfl ?_
      refine v_getr (r := 123) d_Rk_add_63 fl_Rk_15 (hS.o (by decide) rfl) rfl (hS.r (by decide) rfl) rfl ?_
      refine v_iload_n 0 d_Rk_add_66 rfl rfl rfl ?_
      refine v_iload_n 3 d_Rk_add_67 rfl rfl rfl ?_
      refine v_iast (j := k) d_Rk_add_68 (hS.a (t := 32) (n := 16) (by decide) rfl) ez (by omega) (by decide) rfl ?_
      generalize hI3 : u2 I2 123 k y = I3
      refine v_aload_n 1 d_Rk_add_69 rfl rfl rfl ?_
      refine v_dup d_Rk_add_70 rfl rfl ?_
      refine v_geti d_Rk_add_71 fl_Rk_18 (hS.o (by decide) rfl) rfl rfl ?_
      refine v_iconst (v := 1) d_Rk_add_74 (by decide) rfl ?_
      refine v_iadd d_Rk_add_75 rfl ?_
      refine v_nmi (fun z4 ez4 => ?_)
      refine v_puti d_Rk_add_76 fl_Rk_18 (hS.o (by decide) rfl) rfl rfl rfl ?_
      generalize hI5 : u2 I3 121 2 z4 = I5
      refine v_vret d_Rk_add_79 rfl ?_
      have hk0 : k = 0 := by rcases Nat.eq_zero_or_pos k with h9 | h9; exact h9; exact absurd c1 (by rw [ez]; exact nI_nle h9 (by omega))
      subst hk0
      have hpk : pos (I0 123) y m = 0 := hpo
      refine ⟨rfl, rfl, rfl, ?_, ?_, ?_, ?_, ?_⟩
      · subst_vars; rw [hpk, u2_o (by decide), u2_o (by decide), u2_row, h1]; rfl
      · subst_vars; rw [hpk, u2_o (by decide), u2_row, u2_o (by decide), h2]; rfl
      · subst_vars; rw [u2_s, u2_o (by decide), u2_o (by decide), h3, hm]; exact nI_1 m
      · intro j hj; subst_vars; rw [u2_n (Or.inr hj), u2_o (by decide), u2_o (by decide)]; exact h3 j
      · intro b b1 b2 b3; subst_vars; rw [u2_o b1, u2_o b3, u2_o b2]; exact h4 b b1 b2 b3
    · obtain ⟨k', hk'⟩ : ∃ k', k = k' + 1 := ⟨k - 1, by rcases Nat.eq_zero_or_pos k with h9 | h9; exact absurd (by rw [ez, h9]; exact Int32.le_refl _) c1; omega⟩
      subst hk'
      refine v_aload_n 1 d_Rk_add_9 rfl rfl rfl ?_
      refine v_getr (r := 123) d_Rk_add_10 fl_Rk_15 (hS.o (by decide) rfl) rfl (hS.r (by decide) rfl) rfl ?_
      refine v_iload_n 0 d_Rk_add_13 rfl rfl rfl ?_
      refine v_iconst (v := 1) d_Rk_add_14 (by decide) rfl ?_
      refine v_isub d_Rk_add_15 rfl ?_
      refine v_nmi (fun z6 ez6 => ?_)
      have nz6 : z6 = nI ((k' + 1) - 1) := by rw [ez6, show z = nI (k' + 1) from ez, show 1 = nI 1 from rfl]; exact pk_sub (by omega)
      refine v_iald (j := ((k' + 1) - 1)) d_Rk_add_16 (hS.a (t := 32) (n := 16) (by decide) rfl) nz6 (by omega) (by decide) rfl ?_
      refine v_iload_n 3 d_Rk_add_17 rfl rfl rfl ?_
      refine v_icmp_ge (tgt := 55) d_Rk_add_18 (by decide) rfl (fun c7 => ?_) (fun c7 => ?_)
      · refine v_aload_n 1 d_Rk_add_55 rfl rfl rfl ?_
        refine v_getr (r := 122) d_Rk_add_56 fl_Rk_9 (hS.o (by decide) rfl) rfl (hS.r (by decide) rfl) rfl ?_
        refine v_iload_n 0 d_Rk_add_59 rfl rfl rfl ?_
        refine v_iload_n 2 d_Rk_add_60 rfl rfl rfl ?_
        refine v_iast (j := (k' + 1)) d_Rk_add_61 (hS.a (t := 32) (n := 16) (by decide) rfl) ez (by omega) (by decide) rfl ?_
        generalize hI8 : u2 I 122 (k' + 1) x = I8
        refine v_aload_n 1 d_Rk_add_62 rfl rfl rfl ?_
        refine v_getr (r := 123) d_Rk_add_63 fl_Rk_15 (hS.o (by decide) rfl) rfl (hS.r (by decide) rfl) rfl ?_
        refine v_iload_n 0 d_Rk_add_66 rfl rfl rfl ?_
        refine v_iload_n 3 d_Rk_add_67 rfl rfl rfl ?_
        refine v_iast (j := (k' + 1)) d_Rk_add_68 (hS.a (t := 32) (n := 16) (by decide) rfl) ez (by omega) (by decide) rfl ?_
        generalize hI9 : u2 I8 123 (k' + 1) y = I9
        refine v_aload_n 1 d_Rk_add_69 rfl rfl rfl ?_
        refine v_dup d_Rk_add_70 rfl rfl ?_
        refine v_geti d_Rk_add_71 fl_Rk_18 (hS.o (by decide) rfl) rfl rfl ?_
        refine v_iconst (v := 1) d_Rk_add_74 (by decide) rfl ?_
        refine v_iadd d_Rk_add_75 rfl ?_
        refine v_nmi (fun z10 ez10 => ?_)
        refine v_puti d_Rk_add_76 fl_Rk_18 (hS.o (by decide) rfl) rfl rfl rfl ?_
        generalize hI11 : u2 I9 121 2 z10 = I11
        refine v_vret d_Rk_add_79 rfl ?_
        have hpk : pos (I0 123) y m = k' + 1 := by rw [hpo, pos_s, if_neg]; have h9 := c7; rw [h2] at h9; unfold shr at h9; rw [if_neg (by omega), show k' + 1 - 1 = k' by omega] at h9; exact Int32.not_lt.mpr h9
        refine ⟨rfl, rfl, rfl, ?_, ?_, ?_, ?_, ?_⟩
        · subst_vars; rw [hpk, u2_o (by decide), u2_o (by decide), u2_row, h1]; rfl
        · subst_vars; rw [hpk, u2_o (by decide), u2_row, u2_o (by decide), h2]; rfl
        · subst_vars; rw [u2_s, u2_o (by decide), u2_o (by decide), h3, hm]; exact nI_1 m
        · intro j hj; subst_vars; rw [u2_n (Or.inr hj), u2_o (by decide), u2_o (by decide)]; exact h3 j
        · intro b b1 b2 b3; subst_vars; rw [u2_o b1, u2_o b3, u2_o b2]; exact h4 b b1 b2 b3
      · have hlt : I0 123 k' < y := by have h9 := c7; rw [h2] at h9; unfold shr at h9; rw [if_neg (by omega), show k' + 1 - 1 = k' by omega] at h9; exact Int32.not_le.mp h9
        refine v_aload_n 1 d_Rk_add_21 rfl rfl rfl ?_
        refine v_getr (r := 122) d_Rk_add_22 fl_Rk_9 (hS.o (by decide) rfl) rfl (hS.r (by decide) rfl) rfl ?_
        refine v_iload_n 0 d_Rk_add_25 rfl rfl rfl ?_
        refine v_aload_n 1 d_Rk_add_26 rfl rfl rfl ?_
        refine v_getr (r := 122) d_Rk_add_27 fl_Rk_9 (hS.o (by decide) rfl) rfl (hS.r (by decide) rfl) rfl ?_
        refine v_iload_n 0 d_Rk_add_30 rfl rfl rfl ?_
        refine v_iconst (v := 1) d_Rk_add_31 (by decide) rfl ?_
        refine v_isub d_Rk_add_32 rfl ?_
        refine v_nmi (fun z12 ez12 => ?_)
        have nz12 : z12 = nI ((k' + 1) - 1) := by rw [ez12, show z = nI (k' + 1) from ez, show 1 = nI 1 from rfl]; exact pk_sub (by omega)
        refine v_iald (j := ((k' + 1) - 1)) d_Rk_add_33 (hS.a (t := 32) (n := 16) (by decide) rfl) nz12 (by omega) (by decide) rfl ?_
        refine v_iast (j := (k' + 1)) d_Rk_add_34 (hS.a (t := 32) (n := 16) (by decide) rfl) ez (by omega) (by decide) rfl ?_
        generalize hI13 : u2 I 122 (k' + 1) (I 122 ((k' + 1) - 1)) = I13
        refine v_aload_n 1 d_Rk_add_35 rfl rfl rfl ?_
        refine v_getr (r := 123) d_Rk_add_36 fl_Rk_15 (hS.o (by decide) rfl) rfl (hS.r (by decide) rfl) rfl ?_
        refine v_iload_n 0 d_Rk_add_39 rfl rfl rfl ?_
        refine v_aload_n 1 d_Rk_add_40 rfl rfl rfl ?_
        refine v_getr (r := 123) d_Rk_add_41 fl_Rk_15 (hS.o (by decide) rfl) rfl (hS.r (by decide) rfl) rfl ?_
        refine v_iload_n 0 d_Rk_add_44 rfl rfl rfl ?_
        refine v_iconst (v := 1) d_Rk_add_45 (by decide) rfl ?_
        refine v_isub d_Rk_add_46 rfl ?_
        refine v_nmi (fun z14 ez14 => ?_)
        have nz14 : z14 = nI ((k' + 1) - 1) := by rw [ez14, show z = nI (k' + 1) from ez, show 1 = nI 1 from rfl]; exact pk_sub (by omega)
        refine v_iald (j := ((k' + 1) - 1)) d_Rk_add_47 (hS.a (t := 32) (n := 16) (by decide) rfl) nz14 (by omega) (by decide) rfl ?_
        refine v_iast (j := (k' + 1)) d_Rk_add_48 (hS.a (t := 32) (n := 16) (by decide) rfl) ez (by omega) (by decide) rfl ?_
        generalize hI15 : u2 I13 123 (k' + 1) (I13 123 ((k' + 1) - 1)) = I15
        obtain ⟨x16, ex16⟩ : ∃ y : Int32, y = z + (-1) := ⟨_, rfl⟩
        have nx16 : x16 = nI ((k' + 1) - 1) := by rw [ex16, show z = nI (k' + 1) from ez]; exact sb_m1 (by omega)
        refine v_iinc (n := 0) (v := x16) (L' := [(3, .int x16), (0, .ref 121), (1, .int x), (2, .int y)]) d_Rk_add_49 rfl (by rw [ex16]; rfl) (by decide) rfl rfl ?_
        refine v_goto (tgt := 5) d_Rk_add_52 (by decide) ?_
        refine ih k' I15 _ nx16 (by omega) (by omega) ?_ ?_ ?_ ?_ ?_
        · subst_vars; rw [u2_o (by decide), u2_row, h1, ← shr_s (f := I0 122) (k := k') (by omega)]; funext j; by_cases hj : j = k' + 1
          · rw [if_pos hj, if_pos hj]; unfold shr; rw [if_neg (by omega)]; rfl
          · rw [if_neg hj, if_neg hj]
        · subst_vars; rw [u2_row, u2_o (by decide), h2, ← shr_s (f := I0 123) (k := k') (by omega)]; funext j; by_cases hj : j = k' + 1
          · rw [if_pos hj, if_pos hj]; unfold shr; rw [if_neg (by omega)]; rfl
          · rw [if_neg hj, if_neg hj]
        · intro j; subst_vars; rw [u2_o (by decide), u2_o (by decide)]; exact h3 j
        · intro b b1 b2 b3; subst_vars; rw [u2_o b3, u2_o b2]; exact h4 b b1 b2 b3
        · rw [hpo, pos_s, if_pos hlt]
set_option maxHeartbeats 4000000 in
set_option maxRecDepth 100000 in
theorem c_Rk_add {C : CT} {l : Launch} {S : ShT} {I : DI} {J : DJ} {d : Nat} (hC : OKC C l) (hS : SHP S) {m : Nat} (hm15 : m < 16) (hm : I 121 2 = nI m) (x y : Int32) (hd : 0 ≤ d) : Sp C l k_Rk_add y_Rk_add (d, 0, 0) [.ref 121, .int x, .int y] S I J (PU S J (fun I' => I' 122 = ins (I 122) (pos (I 123) y m) m x ∧ I' 123 = ins (I 123) (pos (I 123) y m) m y ∧ I' 121 2 = nI (m + 1) ∧ (∀ j, j ≠ 2 → I' 121 j = I 121 j) ∧ ∀ b, b ≠ 121 → b ≠ 122 → b ≠ 123 → I' b = I b)) := by
  refine Sp.of hC cd_Rk_add (Nat.le_of_ble_eq_true rfl) ?_
  show V C l k_Rk_add (d, 0, 0) _ 0 [(0, .ref 121), (1, .int x), (2, .int y)] [] S I J (0, 0)
  refine v_aload_n 0 d_Rk_add_0 rfl rfl rfl ?_
  refine v_geti d_Rk_add_1 fl_Rk_18 (hS.o (by decide) rfl) rfl rfl ?_
  refine v_istore_n (L' := [(3, .int (I 121 2)), (0, .ref 121), (1, .int x), (2, .int y)]) d_Rk_add_4 rfl (by decide) rfl rfl ?_
  exact lp_Rk_add hC hS hd hm15 hm (m + 1) m I _ hm (by omega) (by omega) shr_0.symm shr_0.symm (fun _ => rfl) (fun _ _ _ _ => rfl) rfl
end
section
/-- the character at a, 0 at the end -/
def nx (c : Nat → Int32) (n a : Nat) : Int32 := if a < n then c a else 0
theorem nx_lt {c : Nat → Int32} {n a : Nat} (h : a < n) : nx c n a = c a := if_pos h
theorem nx_ge {c : Nat → Int32} {n a : Nat} (h : ¬ a < n) : nx c n a = 0 := if_neg h
theorem u2_u2 {α : Type} {f : Nat → Nat → α} {a k : Nat} {x y : α} : u2 (u2 f a k x) a k y = u2 f a k y := by
  funext b j
  unfold u2
  by_cases h : b = a ∧ j = k
  · rw [if_pos h, if_pos h]
  · rw [if_neg h, if_neg h, if_neg h]
def skF (c : Nat → Int32) : Nat → Nat → Nat
  | i, 0 => i
  | i, k + 1 => if c i = 32 then skF c (i + 1) k else i
theorem skF_s (c : Nat → Int32) (i k : Nat) : skF c i (k + 1) = if c i = 32 then skF c (i + 1) k else i := rfl
/-- behind the blanks from a on -/
def skb (c : Nat → Int32) (n a : Nat) : Nat := skF c a (n - a)
theorem skF_le (c : Nat → Int32) : ∀ k i, i ≤ skF c i k ∧ skF c i k ≤ i + k
  | 0, i => ⟨Nat.le_refl _, Nat.le_refl _⟩
  | k + 1, i => by
    rw [skF_s]
    have h := skF_le c k (i + 1)
    by_cases hx : c i = 32
    · rw [if_pos hx]; omega
    · rw [if_neg hx]; omega
theorem skb_le {c : Nat → Int32} {n a : Nat} (h : a ≤ n) : a ≤ skb c n a ∧ skb c n a ≤ n := by
  have := skF_le c (n - a) a
  unfold skb
  omega
/-- how many letters, at most k, from a on -/
def lcn (c : Nat → Int32) (n : Nat) : Nat → Nat → Nat
  | _, 0 => 0
  | a, k + 1 => if isLt (nx c n a) then lcn c n (a + 1) k + 1 else 0
theorem lcn_s (c : Nat → Int32) (n a k : Nat) : lcn c n a (k + 1) = if isLt (nx c n a) then lcn c n (a + 1) k + 1 else 0 := rfl
theorem lcn_le (c : Nat → Int32) (n : Nat) : ∀ k a, lcn c n a k ≤ k
  | 0, a => Nat.le_refl _
  | k + 1, a => by
    rw [lcn_s]
    by_cases h : isLt (nx c n a) = true
    · rw [if_pos h]; have := lcn_le c n k (a + 1); omega
    · rw [if_neg h]; omega
theorem isLt_lt {c : Nat → Int32} {n a : Nat} (h : isLt (nx c n a) = true) : a < n := by
  rcases Nat.lt_or_ge a n with h9 | h9
  · exact h9
  · rw [nx_ge (by omega)] at h
    exact absurd h (by decide)
theorem lcn_n {c : Nat → Int32} {n : Nat} : ∀ k a, a ≤ n → a + lcn c n a k ≤ n
  | 0, a, h => h
  | k + 1, a, h => by
    rw [lcn_s]
    by_cases hl : isLt (nx c n a) = true
    · rw [if_pos hl]; have := lcn_n (c := c) k (a + 1) (isLt_lt hl); omega
    · rw [if_neg hl]; omega
set_option maxHeartbeats 4000000 in
set_option maxRecDepth 100000 in
theorem c_Qy_next {C : CT} {l : Launch} {S : ShT} {I : DI} {J : DJ} {d : Nat} (hC : OKC C l) (hS : SHP S) {n a : Nat} (hn40 : n ≤ 40) (han : a ≤ n) (hn : I 76 1 = nI n) (ha : I 76 5 = nI a) (hd : 0 ≤ d) : Sp C l k_Qy_next y_Qy_next (d, 0, 0) [.ref 76] S I J (PP (.int (nx (I 77) n a)) S I J) := by
  refine Sp.of hC cd_Qy_next (Nat.le_of_ble_eq_true rfl) ?_
  show V C l k_Qy_next (d, 0, 0) _ 0 [(0, .ref 76)] [] S I J (0, 0)
  refine v_aload_n 0 d_Qy_next_0 rfl rfl rfl ?_
  refine v_geti d_Qy_next_1 fl_Qy_26 (hS.o (by decide) rfl) rfl rfl ?_
  refine v_aload_n 0 d_Qy_next_4 rfl rfl rfl ?_
  refine v_geti d_Qy_next_5 fl_Qy_22 (hS.o (by decide) rfl) rfl rfl ?_
  refine v_icmp_ge (tgt := 23) d_Qy_next_8 (by decide) rfl (fun c1 => ?_) (fun c1 => ?_)
  · have hge : ¬ a < n := fun h9 => absurd c1 (by rw [hn, ha]; exact nI_ge h9 (by omega))
    refine v_iconst (v := 0) d_Qy_next_23 (by decide) rfl ?_
    refine v_iret d_Qy_next_24 rfl ?_
    exact ⟨by first | rw [nx_lt hlt] | rw [nx_ge hge], rfl, rfl, rfl⟩
  · have hlt : a < n := by rcases Nat.lt_or_ge a n with h9 | h9; exact h9; exact absurd (by rw [hn, ha]; exact nI_le h9 (by omega)) c1
    refine v_aload_n 0 d_Qy_next_11 rfl rfl rfl ?_
    refine v_getr (r := 77) d_Qy_next_12 fl_Qy_9 (hS.o (by decide) rfl) rfl (hS.r (by decide) rfl) rfl ?_
    refine v_aload_n 0 d_Qy_next_15 rfl rfl rfl ?_
    refine v_geti d_Qy_next_16 fl_Qy_26 (hS.o (by decide) rfl) rfl rfl ?_
    refine v_iald (j := a) d_Qy_next_19 (hS.a (t := 32) (n := 40) (by decide) rfl) ha (by omega) (by decide) rfl ?_
    refine v_goto (tgt := 24) d_Qy_next_20 (by decide) ?_
    refine v_iret d_Qy_next_24 rfl ?_
    exact ⟨by first | rw [nx_lt hlt] | rw [nx_ge hge], rfl, rfl, rfl⟩
set_option maxHeartbeats 4000000 in
set_option maxRecDepth 100000 in
theorem c_Qy_atAlternativeEnd {C : CT} {l : Launch} {S : ShT} {I : DI} {J : DJ} {d : Nat} (hC : OKC C l) (hS : SHP S) {n a : Nat} (hn40 : n ≤ 40) (han : a ≤ n) (hn : I 76 1 = nI n) (ha : I 76 5 = nI a) (hd : 1 ≤ d) : Sp C l k_Qy_atAlternativeEnd y_Qy_atAlternativeEnd (d, 0, 0) [.ref 76] S I J (PP (.int (bI (decide (nx (I 77) n a = 0) || decide (nx (I 77) n a = 124)))) S I J) := by
  refine Sp.of hC cd_Qy_atAlternativeEnd (Nat.le_of_ble_eq_true rfl) ?_
  show V C l k_Qy_atAlternativeEnd (d, 0, 0) _ 0 [(0, .ref 76)] [] S I J (0, 0)
  refine v_aload_n 0 d_Qy_atAlternativeEnd_0 rfl rfl rfl ?_
  refine v_cVp (as := []) d_Qy_atAlternativeEnd_1 cs_Qy_45 (c_Qy_next hC hS (d := d - 1) (n := n) (a := a) hn40 han hn ha (by omega)) (hS.o (by decide) rfl) (by decide) rfl rfl rfl (by decide) (by omega) rfl ?_
  refine v_if_eq (tgt := 16) d_Qy_atAlternativeEnd_4 (by decide) rfl (fun c1 => ?_) (fun c1 => ?_)
  · refine v_iconst (v := 1) d_Qy_atAlternativeEnd_16 (by decide) rfl ?_
    refine v_goto (tgt := 21) d_Qy_atAlternativeEnd_17 (by decide) ?_
    refine v_zret d_Qy_atAlternativeEnd_21 rfl (Or.inr rfl) ?_
    exact ⟨by simp_all [bI], rfl, rfl, rfl⟩
  · refine v_aload_n 0 d_Qy_atAlternativeEnd_7 rfl rfl rfl ?_
    refine v_cVp (as := []) d_Qy_atAlternativeEnd_8 cs_Qy_45 (c_Qy_next hC hS (d := d - 1) (n := n) (a := a) hn40 han hn ha (by omega)) (hS.o (by decide) rfl) (by decide) rfl rfl rfl (by decide) (by omega) rfl ?_
    refine v_bipush (v := 124) d_Qy_atAlternativeEnd_11 (by decide) rfl ?_
    refine v_icmp_ne (tgt := 20) d_Qy_atAlternativeEnd_13 (by decide) rfl (fun c2 => ?_) (fun c2 => ?_)
    · refine v_iconst (v := 0) d_Qy_atAlternativeEnd_20 (by decide) rfl ?_
      refine v_zret d_Qy_atAlternativeEnd_21 rfl (Or.inl rfl) ?_
      exact ⟨by simp_all [bI], rfl, rfl, rfl⟩
    · refine v_iconst (v := 1) d_Qy_atAlternativeEnd_16 (by decide) rfl ?_
      refine v_goto (tgt := 21) d_Qy_atAlternativeEnd_17 (by decide) ?_
      refine v_zret d_Qy_atAlternativeEnd_21 rfl (Or.inr rfl) ?_
      exact ⟨by simp_all [bI], rfl, rfl, rfl⟩
set_option maxHeartbeats 4000000 in
set_option maxRecDepth 100000 in
theorem lp_Qy_skipBlanks {C : CT} {l : Launch} {S : ShT} {d : Nat} (hC : OKC C l) (hS : SHP S) {J : DJ} {n : Nat} (hn40 : n ≤ 40) : ∀ (k a : Nat) (I : DI), a ≤ n → n < a + k → I 76 1 = nI n → I 76 5 = nI a → V C l k_Qy_skipBlanks (d, 0, 0) (PU S J (fun I' => I' = u2 I 76 5 (nI (skb (I 77) n a)))) 0 [(0, .ref 76)] [] S I J (0, 0) := by
  intro k
  induction k with
  | zero =>
    intro a I h1 h2
    omega
  | succ k ih =>
    intro a I han hf hn ha
    refine v_aload_n 0 d_Qy_skipBlanks_0 rfl rfl rfl ?_
    refine v_geti d_Qy_skipBlanks_1 fl_Qy_26 (hS.o (by decide) rfl) rfl rfl ?_
    refine v_aload_n 0 d_Qy_skipBlanks_4 rfl rfl rfl ?_
    refine v_geti d_Qy_skipBlanks_5 fl_Qy_22 (hS.o (by decide) rfl) rfl rfl ?_
    refine v_icmp_ge (tgt := 38) d_Qy_skipBlanks_8 (by decide) rfl (fun c1 => ?_) (fun c1 => ?_)
    · refine v_vret d_Qy_skipBlanks_38 rfl ?_
      have e9 : skb (I 77) n a = a := by unfold skb; rw [show n - a = 0 by rcases Nat.lt_or_ge a n with h9 | h9; exact absurd c1 (by rw [hn, ha]; exact nI_ge h9 (by omega)); omega]; rfl
      exact ⟨rfl, rfl, rfl, by rw [e9]; exact u2_id ha⟩
    · have hlt : a < n := by rcases Nat.lt_or_ge a n with h9 | h9; exact h9; exact absurd (by rw [hn, ha]; exact nI_le h9 (by omega)) c1
      refine v_aload_n 0 d_Qy_skipBlanks_11 rfl rfl rfl ?_
      refine v_getr (r := 77) d_Qy_skipBlanks_12 fl_Qy_9 (hS.o (by decide) rfl) rfl (hS.r (by decide) rfl) rfl ?_
      refine v_aload_n 0 d_Qy_skipBlanks_15 rfl rfl rfl ?_
      refine v_geti d_Qy_skipBlanks_16 fl_Qy_26 (hS.o (by decide) rfl) rfl rfl ?_
      refine v_iald (j := a) d_Qy_skipBlanks_19 (hS.a (t := 32) (n := 40) (by decide) rfl) ha (by omega) (by decide) rfl ?_
      refine v_bipush (v := 32) d_Qy_skipBlanks_20 (by decide) rfl ?_
      refine v_icmp_ne (tgt := 38) d_Qy_skipBlanks_22 (by decide) rfl (fun c2 => ?_) (fun c2 => ?_)
      · refine v_vret d_Qy_skipBlanks_38 rfl ?_
        have e9 : skb (I 77) n a = a := by unfold skb; rw [show n - a = (n - (a + 1)) + 1 by omega, skF_s, if_neg c2]
        exact ⟨rfl, rfl, rfl, by rw [e9]; exact u2_id ha⟩
      · refine v_aload_n 0 d_Qy_skipBlanks_25 rfl rfl rfl ?_
        refine v_dup d_Qy_skipBlanks_26 rfl rfl ?_
        refine v_geti d_Qy_skipBlanks_27 fl_Qy_26 (hS.o (by decide) rfl) rfl rfl ?_
        refine v_iconst (v := 1) d_Qy_skipBlanks_30 (by decide) rfl ?_
        refine v_iadd d_Qy_skipBlanks_31 rfl ?_
        refine v_nmi (fun z3 ez3 => ?_)
        have nz3 : z3 = nI (a + 1) := by rw [ez3, show I 76 5 = nI a from ha, show 1 = nI 1 from rfl]; exact nI_add _ _
        refine v_puti d_Qy_skipBlanks_32 fl_Qy_26 (hS.o (by decide) rfl) rfl rfl rfl ?_
        generalize hI4 : u2 I 76 5 z3 = I4
        refine v_goto (tgt := 0) d_Qy_skipBlanks_35 (by decide) ?_
        have h9 := ih (a + 1) I4 (by omega) (by omega) (by rw [← hI4, u2_n (by decide)]; exact hn) (by rw [← hI4, u2_s]; exact nz3)
        rw [show I4 77 = I 77 by rw [← hI4, u2_o (by decide)]] at h9
        have e9 : skb (I 77) n a = skb (I 77) n (a + 1) := by unfold skb; rw [show n - a = (n - (a + 1)) + 1 by omega, skF_s, if_pos c2]
        rw [e9]
        have e8 : u2 I4 76 5 (nI (skb (I 77) n (a + 1))) = u2 I 76 5 (nI (skb (I 77) n (a + 1))) := by rw [← hI4, u2_u2]
        rw [e8] at h9
        exact h9
set_option maxHeartbeats 4000000 in
set_option maxRecDepth 100000 in
theorem c_Qy_skipBlanks {C : CT} {l : Launch} {S : ShT} {I : DI} {J : DJ} {d : Nat} (hC : OKC C l) (hS : SHP S) {n a : Nat} (hn40 : n ≤ 40) (han : a ≤ n) (hn : I 76 1 = nI n) (ha : I 76 5 = nI a) : Sp C l k_Qy_skipBlanks y_Qy_skipBlanks (d, 0, 0) [.ref 76] S I J (PU S J (fun I' => I' = u2 I 76 5 (nI (skb (I 77) n a)))) := by
  refine Sp.of hC cd_Qy_skipBlanks (Nat.le_of_ble_eq_true rfl) ?_
  exact lp_Qy_skipBlanks hC hS hn40 (n + 1) a I han (by omega) hn ha
end
section
/-- the word from a on has a fault: no letter, or a ninth -/
def badW (c : Nat → Int32) (n a : Nat) : Bool := decide (lcn c n a 8 = 0) || isLt (nx c n (a + lcn c n a 8))
/-- what parseWord leaves -/
def PwQ (I : DI) (J : DJ) (i n a s : Nat) (I' : DI) (J' : DJ) : Prop :=
  (badW (I 77) n a = true ∧ I' = u2 (u2 I 76 5 (nI (a + lcn (I 77) n a 8))) 76 6 (nI (a + lcn (I 77) n a 8)) ∧ J' = J) ∨
  (badW (I 77) n a = false ∧ I' = u2 (u2 I 76 5 (nI (a + lcn (I 77) n a 8))) (79 + 2 * i) 1 (nI (s + 1)) ∧ J' = u2 J (80 + 2 * i) s (wC (I 77) a (lcn (I 77) n a 8)))
set_option maxHeartbeats 4000000 in
set_option maxRecDepth 100000 in
theorem lp_Qy_parseWord {C : CT} {l : Launch} {S : ShT} {d : Nat} (hC : OKC C l) (hS : SHP S) (hd : 1 ≤ d) {I0 : DI} {J : DJ} {i n a s : Nat} (hi : i < 21) (hn40 : n ≤ 40) (han : a ≤ n) (hs4 : s < 4) (hn : I0 76 1 = nI n) (hs : I0 (79 + 2 * i) 1 = nI s) : ∀ (n0 : Nat) (t : Nat) (I : DI) (x : Int32) (v : Int64), x = nI t → t ≤ 8 → 8 < t + n0 → a + t ≤ n → v = wC (I0 77) a t → I = u2 I0 76 5 (nI (a + t)) → lcn (I0 77) n a 8 = t + lcn (I0 77) n (a + t) (8 - t) → V C l k_Qy_parseWord (d, 0, 0) (PW S (PwQ I0 J i n a s)) 5 [(4, .int x), (2, .long v), (0, .ref 76), (1, .ref (79 + 2 * i))] [] S I J (0, 0) := by
  intro n0
  induction n0 with
  | zero =>
    intro t I x v ex ht hf hat hv hIe hl
    omega
  | succ n0 ih =>
    intro t I x v ex ht hf hat hv hIe hl
    have hn1 : I 76 1 = nI n := by rw [hIe, u2_n (by decide)]; exact hn
    have ha1 : I 76 5 = nI (a + t) := by rw [hIe, u2_s]
    have hc : I 77 = I0 77 := by rw [hIe, u2_o (by decide)]
    refine v_iload 0 d_Qy_parseWord_5 rfl rfl ?_
    refine v_bipush (v := 8) d_Qy_parseWord_7 (by decide) rfl ?_
    refine v_icmp_ge (tgt := 49) d_Qy_parseWord_9 (by decide) rfl (fun c1 => ?_) (fun c1 => ?_)
    · have hlt8 : lcn (I0 77) n a 8 = t := by have h9 : t = 8 := (by rcases Nat.lt_or_ge t 8 with h9 | h9; exact absurd c1 (by rw [ex]; exact nI_ge (b := 8) h9 (by decide)); omega); rw [hl, h9]; rfl
      refine v_iload 0 d_Qy_parseWord_49 rfl rfl ?_
      refine v_if_eq (tgt := 64) d_Qy_parseWord_51 (by decide) rfl (fun c2 => ?_) (fun c2 => ?_)
      · refine v_aload_n 2 d_Qy_parseWord_64 rfl rfl rfl ?_
        refine v_aload_n 2 d_Qy_parseWord_65 rfl rfl rfl ?_
        refine v_geti d_Qy_parseWord_66 fl_Qy_26 (hS.o (by decide) rfl) rfl rfl ?_
        refine v_puti d_Qy_parseWord_69 fl_Qy_29 (hS.o (by decide) rfl) rfl rfl rfl ?_
        generalize hI3 : u2 I 76 6 (I 76 5) = I3
        refine v_goto (tgt := 80) d_Qy_parseWord_72 (by decide) ?_
        refine v_vret d_Qy_parseWord_80 rfl ?_
        refine ⟨rfl, rfl, Or.inl ⟨(by unfold badW; rw [hlt8, show t = 0 by have h9 := c2; rw [ex] at h9; exact (nI_eq (b := 0) (by omega) (by decide)).mp h9]; rfl), ?_, rfl⟩⟩
        rw [hlt8, ← hI3, ha1, hIe]
      · refine v_aload_n 2 d_Qy_parseWord_54 rfl rfl rfl ?_
        refine v_cVp (as := []) d_Qy_parseWord_55 cs_Qy_45 (c_Qy_next hC hS (d := d - 1) (n := n) (a := (a + t)) hn40 (by omega) hn1 ha1 (by omega)) (hS.o (by decide) rfl) (by decide) rfl rfl rfl (by decide) (by omega) rfl ?_
        refine v_cNp (as := [.int (nx (I 77) n (a + t))]) d_Qy_parseWord_58 cs_Qy_102 (c_Fi_isLetter hC (d := d - 1) (nx (I 77) n (a + t)) (by omega)) rfl rfl (by decide) (by omega) rfl ?_
        refine v_if_eq (tgt := 75) d_Qy_parseWord_61 (by decide) rfl (fun c4 => ?_) (fun c4 => ?_)
        · refine v_aload_n 3 d_Qy_parseWord_75 rfl rfl rfl ?_
          refine v_lload_n 1 d_Qy_parseWord_76 rfl rfl rfl ?_
          refine v_cVw (as := [.long v]) d_Qy_parseWord_77 cs_Qy_112 (c_Tm_add hC hS (d := d - 1) (n := s) hi (by rw [hIe, u2_o (by omega)]; exact hs) hs4 v (by omega)) (hS.tm hi) (by decide) rfl rfl rfl (by decide) (by omega) rfl (fun I6 J7 h5 => ?_)
          refine v_vret d_Qy_parseWord_80 rfl ?_
          obtain ⟨g1, g2⟩ := h5
          refine ⟨rfl, rfl, Or.inr ⟨?_, ?_, ?_⟩⟩
          · unfold badW; rw [hlt8, show isLt (nx (I0 77) n (a + t)) = false by have h9 := c4; rw [hc] at h9; cases h8 : isLt (nx (I0 77) n (a + t)); rfl; rw [h8] at h9; exact absurd h9 (by decide), Bool.or_false]; simp only [decide_eq_false_iff_not]; intro h9; exact c2 (by rw [ex, h9]; rfl)
          · rw [g1, hIe, hlt8]
          · rw [g2, hv, hlt8]
        · refine v_aload_n 2 d_Qy_parseWord_64 rfl rfl rfl ?_
          refine v_aload_n 2 d_Qy_parseWord_65 rfl rfl rfl ?_
          refine v_geti d_Qy_parseWord_66 fl_Qy_26 (hS.o (by decide) rfl) rfl rfl ?_
          refine v_puti d_Qy_parseWord_69 fl_Qy_29 (hS.o (by decide) rfl) rfl rfl rfl ?_
          generalize hI8 : u2 I 76 6 (I 76 5) = I8
          refine v_goto (tgt := 80) d_Qy_parseWord_72 (by decide) ?_
          refine v_vret d_Qy_parseWord_80 rfl ?_
          refine ⟨rfl, rfl, Or.inl ⟨(by unfold badW; rw [hlt8, show isLt (nx (I0 77) n (a + t)) = true by have h9 := c4; rw [hc] at h9; cases h8 : isLt (nx (I0 77) n (a + t)); rw [h8] at h9; exact absurd rfl h9; rfl, Bool.or_true]), ?_, rfl⟩⟩
          rw [hlt8, ← hI8, ha1, hIe]
    · have ht8 : t < 8 := by rcases Nat.lt_or_ge t 8 with h9 | h9; exact h9; exact absurd (by rw [ex]; exact nI_le (a := 8) h9 (by omega)) c1
      refine v_aload_n 2 d_Qy_parseWord_12 rfl rfl rfl ?_
      refine v_cVp (as := []) d_Qy_parseWord_13 cs_Qy_45 (c_Qy_next hC hS (d := d - 1) (n := n) (a := (a + t)) hn40 (by omega) hn1 ha1 (by omega)) (hS.o (by decide) rfl) (by decide) rfl rfl rfl (by decide) (by omega) rfl ?_
      refine v_cNp (as := [.int (nx (I 77) n (a + t))]) d_Qy_parseWord_16 cs_Qy_102 (c_Fi_isLetter hC (d := d - 1) (nx (I 77) n (a + t)) (by omega)) rfl rfl (by decide) (by omega) rfl ?_
      refine v_if_eq (tgt := 49) d_Qy_parseWord_19 (by decide) rfl (fun c9 => ?_) (fun c9 => ?_)
      · have hlt8 : lcn (I0 77) n a 8 = t := by have h9 : isLt (nx (I0 77) n (a + t)) = false := (by have h8 := c9; rw [hc] at h8; cases h7 : isLt (nx (I0 77) n (a + t)); rfl; rw [h7] at h8; exact absurd h8 (by decide)); rw [hl, show 8 - t = (8 - (t + 1)) + 1 by omega, lcn_s, h9]; rfl
        refine v_iload 0 d_Qy_parseWord_49 rfl rfl ?_
        refine v_if_eq (tgt := 64) d_Qy_parseWord_51 (by decide) rfl (fun c10 => ?_) (fun c10 => ?_)
        · refine v_aload_n 2 d_Qy_parseWord_64 rfl rfl rfl ?_
          refine v_aload_n 2 d_Qy_parseWord_65 rfl rfl rfl ?_
          refine v_geti d_Qy_parseWord_66 fl_Qy_26 (hS.o (by decide) rfl) rfl rfl ?_
          refine v_puti d_Qy_parseWord_69 fl_Qy_29 (hS.o (by decide) rfl) rfl rfl rfl ?_
          generalize hI11 : u2 I 76 6 (I 76 5) = I11
          refine v_goto (tgt := 80) d_Qy_parseWord_72 (by decide) ?_
          refine v_vret d_Qy_parseWord_80 rfl ?_
          refine ⟨rfl, rfl, Or.inl ⟨(by unfold badW; rw [hlt8, show t = 0 by have h9 := c10; rw [ex] at h9; exact (nI_eq (b := 0) (by omega) (by decide)).mp h9]; rfl), ?_, rfl⟩⟩
          rw [hlt8, ← hI11, ha1, hIe]
        · refine v_aload_n 2 d_Qy_parseWord_54 rfl rfl rfl ?_
          refine v_cVp (as := []) d_Qy_parseWord_55 cs_Qy_45 (c_Qy_next hC hS (d := d - 1) (n := n) (a := (a + t)) hn40 (by omega) hn1 ha1 (by omega)) (hS.o (by decide) rfl) (by decide) rfl rfl rfl (by decide) (by omega) rfl ?_
          refine v_cNp (as := [.int (nx (I 77) n (a + t))]) d_Qy_parseWord_58 cs_Qy_102 (c_Fi_isLetter hC (d := d - 1) (nx (I 77) n (a + t)) (by omega)) rfl rfl (by decide) (by omega) rfl ?_
          refine v_if_eq (tgt := 75) d_Qy_parseWord_61 (by decide) rfl (fun c12 => ?_) (fun c12 => ?_)
          · refine v_aload_n 3 d_Qy_parseWord_75 rfl rfl rfl ?_
            refine v_lload_n 1 d_Qy_parseWord_76 rfl rfl rfl ?_
            refine v_cVw (as := [.long v]) d_Qy_parseWord_77 cs_Qy_112 (c_Tm_add hC hS (d := d - 1) (n := s) hi (by rw [hIe, u2_o (by omega)]; exact hs) hs4 v (by omega)) (hS.tm hi) (by decide) rfl rfl rfl (by decide) (by omega) rfl (fun I14 J15 h13 => ?_)
            refine v_vret d_Qy_parseWord_80 rfl ?_
            obtain ⟨g1, g2⟩ := h13
            refine ⟨rfl, rfl, Or.inr ⟨?_, ?_, ?_⟩⟩
            · unfold badW; rw [hlt8, show isLt (nx (I0 77) n (a + t)) = false by have h9 := c12; rw [hc] at h9; cases h8 : isLt (nx (I0 77) n (a + t)); rfl; rw [h8] at h9; exact absurd h9 (by decide), Bool.or_false]; simp only [decide_eq_false_iff_not]; intro h9; exact c10 (by rw [ex, h9]; rfl)
            · rw [g1, hIe, hlt8]
            · rw [g2, hv, hlt8]
          · refine v_aload_n 2 d_Qy_parseWord_64 rfl rfl rfl ?_
            refine v_aload_n 2 d_Qy_parseWord_65 rfl rfl rfl ?_
            refine v_geti d_Qy_parseWord_66 fl_Qy_26 (hS.o (by decide) rfl) rfl rfl ?_
            refine v_puti d_Qy_parseWord_69 fl_Qy_29 (hS.o (by decide) rfl) rfl rfl rfl ?_
            generalize hI16 : u2 I 76 6 (I 76 5) = I16
            refine v_goto (tgt := 80) d_Qy_parseWord_72 (by decide) ?_
            refine v_vret d_Qy_parseWord_80 rfl ?_
            refine ⟨rfl, rfl, Or.inl ⟨(by unfold badW; rw [hlt8, show isLt (nx (I0 77) n (a + t)) = true by have h9 := c12; rw [hc] at h9; cases h8 : isLt (nx (I0 77) n (a + t)); rw [h8] at h9; exact absurd rfl h9; rfl, Bool.or_true]), ?_, rfl⟩⟩
            rw [hlt8, ← hI16, ha1, hIe]
      · have hL : isLt (nx (I0 77) n (a + t)) = true := by have h9 := c9; rw [hc] at h9; cases h8 : isLt (nx (I0 77) n (a + t)); rw [h8] at h9; exact absurd rfl h9; rfl
        have hlt : a + t < n := isLt_lt hL
        refine v_lload_n 1 d_Qy_parseWord_22 rfl rfl rfl ?_
        refine v_iload 0 d_Qy_parseWord_23 rfl rfl ?_
        refine v_aload_n 2 d_Qy_parseWord_25 rfl rfl rfl ?_
        refine v_cVp (as := []) d_Qy_parseWord_26 cs_Qy_45 (c_Qy_next hC hS (d := d - 1) (n := n) (a := (a + t)) hn40 (by omega) hn1 ha1 (by omega)) (hS.o (by decide) rfl) (by decide) rfl rfl rfl (by simp [Value.category]) (by omega) rfl ?_
        refine v_cNp (as := [.long v, .int x, .int (nx (I 77) n (a + t))]) d_Qy_parseWord_29 cs_Qy_108 (c_Fi_withLetter hC (d := d - 1) v x (nx (I 77) n (a + t)) (by omega)) rfl rfl (by decide) (by omega) rfl ?_
        refine v_lstore_n (L' := [(2, .long (wiLe v x (nx (I 77) n (a + t)))), (4, .int x), (0, .ref 76), (1, .ref (79 + 2 * i))]) d_Qy_parseWord_32 rfl (by decide) rfl rfl ?_
        obtain ⟨x17, ex17⟩ : ∃ y : Int32, y = x + 1 := ⟨_, rfl⟩
        have nx17 : x17 = nI (t + 1) := by rw [ex17, show x = nI t from ex]; exact nI_1 _
        refine v_iinc (n := 1) (v := x17) (L' := [(4, .int x17), (2, .long (wiLe v x (nx (I 77) n (a + t)))), (0, .ref 76), (1, .ref (79 + 2 * i))]) d_Qy_parseWord_33 rfl (by rw [ex17]; rfl) (by decide) rfl rfl ?_
        refine v_aload_n 2 d_Qy_parseWord_36 rfl rfl rfl ?_
        refine v_dup d_Qy_parseWord_37 rfl rfl ?_
        refine v_geti d_Qy_parseWord_38 fl_Qy_26 (hS.o (by decide) rfl) rfl rfl ?_
        refine v_iconst (v := 1) d_Qy_parseWord_41 (by decide) rfl ?_
        refine v_iadd d_Qy_parseWord_42 rfl ?_
        refine v_nmi (fun z18 ez18 => ?_)
        have nz18 : z18 = nI ((a + t) + 1) := by rw [ez18, show I 76 5 = nI (a + t) from ha1, show 1 = nI 1 from rfl]; exact nI_add _ _
        refine v_puti d_Qy_parseWord_43 fl_Qy_26 (hS.o (by decide) rfl) rfl rfl rfl ?_
        generalize hI19 : u2 I 76 5 z18 = I19
        refine v_goto (tgt := 5) d_Qy_parseWord_46 (by decide) ?_
        refine v_sub (L' := [(4, .int x17), (2, .long (wiLe v x (nx (I 77) n (a + t)))), (0, .ref 76), (1, .ref (79 + 2 * i))]) [0, 1, 2, 3] rfl ?_
        refine ih (t + 1) I19 _ _ nx17 (by omega) (by omega) (by omega) ?_ ?_ ?_
        · rw [wC_s, if_pos ht8, hv, hc, nx_lt hlt, ex]
        · rw [← hI19, hIe, u2_u2, nz18]; rfl
        · rw [hl, show 8 - t = (8 - (t + 1)) + 1 by omega, lcn_s, if_pos hL, Nat.add_assoc a t 1]; omega
set_option maxHeartbeats 4000000 in
set_option maxRecDepth 100000 in
theorem c_Qy_parseWord {C : CT} {l : Launch} {S : ShT} {I : DI} {J : DJ} {d : Nat} (hC : OKC C l) (hS : SHP S) {i n a s : Nat} (hi : i < 21) (hn40 : n ≤ 40) (han : a ≤ n) (hs4 : s < 4) (hn : I 76 1 = nI n) (ha : I 76 5 = nI a) (hs : I (79 + 2 * i) 1 = nI s) (hd : 1 ≤ d) : Sp C l k_Qy_parseWord y_Qy_parseWord (d, 0, 0) [.ref 76, .ref (79 + 2 * i)] S I J (PW S (PwQ I J i n a s)) := by
  refine Sp.of hC cd_Qy_parseWord (Nat.le_of_ble_eq_true rfl) ?_
  show V C l k_Qy_parseWord (d, 0, 0) _ 0 [(0, .ref 76), (1, .ref (79 + 2 * i))] [] S I J (0, 0)
  refine v_lconst (v := 0) d_Qy_parseWord_0 rfl rfl ?_
  refine v_lstore_n (L' := [(2, .long 0), (0, .ref 76), (1, .ref (79 + 2 * i))]) d_Qy_parseWord_1 rfl (by decide) rfl rfl ?_
  refine v_iconst (v := 0) d_Qy_parseWord_2 (by decide) rfl ?_
  refine v_istore (L' := [(4, .int 0), (2, .long 0), (0, .ref 76), (1, .ref (79 + 2 * i))]) d_Qy_parseWord_3 (by decide) rfl rfl ?_
  exact lp_Qy_parseWord hC hS hd hi hn40 han hs4 hn hs 9 0 I 0 0 rfl (by omega) (by omega) (by omega) rfl (u2_id ha) (by simp)
end
section
theorem nI_m1 {k : Nat} (h : k < 100) : ¬ nI k = -1 := by
  intro h9
  have := congrArg Int32.toInt h9
  rw [nI_toInt (by omega)] at this
  exact absurd this (by show ¬ ((k : Int) = -1); omega)
def msk (l : Nat) : Int64 := (-1) <<< ((8 * (8 - nI l)).toInt64 &&& 63)
/-- the frame of what reads into the term i -/
def FrT (i : Nat) (I : DI) (J : DJ) (I' : DI) (J' : DJ) : Prop := (∀ b, b ≠ 76 → b ≠ 79 + 2 * i → I' b = I b) ∧ (∀ j, j ≠ 5 → j ≠ 6 → I' 76 j = I 76 j) ∧ (∀ j, j ≠ 1 → I' (79 + 2 * i) j = I (79 + 2 * i) j) ∧ (∀ b, b ≠ 79 + 2 * i → b ≠ 80 + 2 * i → J' b = J b)
theorem FrT.trans {i : Nat} {I I1 I2 : DI} {J J1 J2 : DJ} (h : FrT i I J I1 J1) (g : FrT i I1 J1 I2 J2) : FrT i I J I2 J2 :=
  ⟨fun b b1 b2 => (g.1 b b1 b2).trans (h.1 b b1 b2), fun j j1 j2 => (g.2.1 j j1 j2).trans (h.2.1 j j1 j2), fun j j1 => (g.2.2.1 j j1).trans (h.2.2.1 j j1), fun b b1 b2 => (g.2.2.2 b b1 b2).trans (h.2.2.2 b b1 b2)⟩
theorem PwQ.fr {I : DI} {J : DJ} {i n a s : Nat} {I' : DI} {J' : DJ} (hi : i < 21) (h : PwQ I J i n a s I' J') : FrT i I J I' J' := by
  rcases h with ⟨-, rfl, rfl⟩ | ⟨-, rfl, rfl⟩
  · exact ⟨fun b b1 b2 => by rw [u2_o b1, u2_o b1], fun j j1 j2 => by rw [u2_n (Or.inr j2), u2_n (Or.inr j1)], fun j _ => by rw [u2_o (by omega), u2_o (by omega)], fun _ _ _ => rfl⟩
  · exact ⟨fun b b1 b2 => by rw [u2_o b2, u2_o b1], fun j j1 j2 => by rw [u2_o (by omega), u2_n (Or.inr j1)], fun j j1 => by rw [u2_n (Or.inr j1), u2_o (by omega)], fun b b1 b2 => by rw [u2_o b2]⟩
/-- a word, or a word and * -/
def WbQ (I : DI) (J : DJ) (i n a : Nat) (I' : DI) (J' : DJ) : Prop := FrT i I J I' J' ∧
  ((badW (I 77) n a = true ∧ I' 76 6 = nI (a + lcn (I 77) n a 8) ∧ ∃ b, b ≤ n ∧ I' 76 5 = nI b) ∨
   (badW (I 77) n a = false ∧ I' 76 6 = -1 ∧ I' 76 5 = nI (a + lcn (I 77) n a 8 + if nx (I 77) n (a + lcn (I 77) n a 8) = 42 then 1 else 0) ∧ I' (79 + 2 * i) 1 = 1 ∧ J' (80 + 2 * i) 0 = wC (I 77) a (lcn (I 77) n a 8) ∧
    J' (79 + 2 * i) 4 = if nx (I 77) n (a + lcn (I 77) n a 8) = 42 then msk (lcn (I 77) n a 8) else J (79 + 2 * i) 4))
set_option maxHeartbeats 4000000 in
set_option maxRecDepth 100000 in
theorem c_Qy_parseWordOrBeginning {C : CT} {l : Launch} {S : ShT} {I : DI} {J : DJ} {d : Nat} (hC : OKC C l) (hS : SHP S) {i n a : Nat} (hi : i < 21) (hn40 : n ≤ 40) (han : a ≤ n) (hn : I 76 1 = nI n) (ha : I 76 5 = nI a) (hs : I (79 + 2 * i) 1 = nI 0) (hf : I 76 6 = -1) (hd : 2 ≤ d) : Sp C l k_Qy_parseWordOrBeginning y_Qy_parseWordOrBeginning (d, 0, 0) [.ref 76, .ref (79 + 2 * i)] S I J (PW S (WbQ I J i n a)) := by
  refine Sp.of hC cd_Qy_parseWordOrBeginning (Nat.le_of_ble_eq_true rfl) ?_
  have hln : a + lcn (I 77) n a 8 ≤ n := lcn_n 8 a han
  show V C l k_Qy_parseWordOrBeginning (d, 0, 0) _ 0 [(0, .ref 76), (1, .ref (79 + 2 * i))] [] S I J (0, 0)
  refine v_aload_n 0 d_Qy_parseWordOrBeginning_0 rfl rfl rfl ?_
  refine v_geti d_Qy_parseWordOrBeginning_1 fl_Qy_26 (hS.o (by decide) rfl) rfl rfl ?_
  refine v_istore_n (L' := [(2, .int (I 76 5)), (0, .ref 76), (1, .ref (79 + 2 * i))]) d_Qy_parseWordOrBeginning_4 rfl (by decide) rfl rfl ?_
  refine v_aload_n 1 d_Qy_parseWordOrBeginning_5 rfl rfl rfl ?_
  refine v_aload_n 2 d_Qy_parseWordOrBeginning_6 rfl rfl rfl ?_
  refine v_cVw (as := [.ref (79 + 2 * i)]) d_Qy_parseWordOrBeginning_7 cs_Qy_96 (c_Qy_parseWord hC hS (d := d - 1) (n := n) (a := a) (s := 0) hi hn40 han (by omega) hn ha hs (by omega)) (hS.o (by decide) rfl) (by decide) rfl rfl rfl (by decide) (by omega) rfl (fun I1 J1 hw => ?_)
  rcases id hw with ⟨q1, q2, q3⟩ | ⟨q1, q2, q3⟩
  · have h6 : I1 76 6 = nI (a + lcn (I 77) n a 8) := by rw [q2, u2_s]
    have h5 : I1 76 5 = nI (a + lcn (I 77) n a 8) := by rw [q2, u2_n (by decide), u2_s]
    have hfr := PwQ.fr hi hw
    refine v_aload_n 1 d_Qy_parseWordOrBeginning_10 rfl rfl rfl ?_
    refine v_cVp (as := []) d_Qy_parseWordOrBeginning_11 cs_Qy_41 (c_Qy_isFaulty hC hS (d := d - 1) (by omega)) (hS.o (by decide) rfl) (by decide) rfl rfl rfl (by decide) (by omega) rfl ?_
    refine v_if_ne (tgt := 46) d_Qy_parseWordOrBeginning_14 (by decide) rfl (fun c1 => ?_) (fun c1 => ?_)
    · refine v_vret d_Qy_parseWordOrBeginning_46 rfl ?_
      exact ⟨rfl, rfl, hfr, Or.inl ⟨q1, h6, _, hln, h5⟩⟩
    · exact absurd (show _ = (0 : Int32) from c1) (by rw [h6]; simp [bI, nI_m1 (show a + lcn (I 77) n a 8 < 100 by omega)])
  · have h6 : I1 76 6 = -1 := by rw [q2, u2_o (by omega), u2_n (by decide)]; exact hf
    have h5 : I1 76 5 = nI (a + lcn (I 77) n a 8) := by rw [q2, u2_o (by omega), u2_s]
    have hn1 : I1 76 1 = nI n := by rw [q2, u2_o (by omega), u2_n (by decide)]; exact hn
    have hc : I1 77 = I 77 := by rw [q2, u2_o (by omega), u2_o (by decide)]
    have hfr := PwQ.fr hi hw
    refine v_aload_n 1 d_Qy_parseWordOrBeginning_10 rfl rfl rfl ?_
    refine v_cVp (as := []) d_Qy_parseWordOrBeginning_11 cs_Qy_41 (c_Qy_isFaulty hC hS (d := d - 1) (by omega)) (hS.o (by decide) rfl) (by decide) rfl rfl rfl (by decide) (by omega) rfl ?_
    refine v_if_ne (tgt := 46) d_Qy_parseWordOrBeginning_14 (by decide) rfl (fun c2 => ?_) (fun c2 => ?_)
    · exact absurd (by rw [h6]; simp [bI]) c2
    · refine v_aload_n 1 d_Qy_parseWordOrBeginning_17 rfl rfl rfl ?_
      refine v_cVp (as := []) d_Qy_parseWordOrBeginning_18 cs_Qy_45 (c_Qy_next hC hS (d := d - 1) (n := n) (a := (a + lcn (I 77) n a 8)) hn40 hln hn1 h5 (by omega)) (hS.o (by decide) rfl) (by decide) rfl rfl rfl (by decide) (by omega) rfl ?_
      refine v_bipush (v := 42) d_Qy_parseWordOrBeginning_21 (by decide) rfl ?_
      refine v_icmp_ne (tgt := 46) d_Qy_parseWordOrBeginning_23 (by decide) rfl (fun c3 => ?_) (fun c3 => ?_)
      · have hst : ¬ nx (I 77) n (a + lcn (I 77) n a 8) = 42 := by have h9 := c3; rw [hc] at h9; exact h9
        refine v_vret d_Qy_parseWordOrBeginning_46 rfl ?_
        refine ⟨rfl, rfl, hfr, Or.inr ⟨q1, h6, ?_, ?_, ?_, ?_⟩⟩
        · rw [h5, if_neg hst]; rfl
        · rw [q2, u2_s]; rfl
        · rw [q3, u2_s]
        · rw [if_neg hst, q3, u2_o (by omega)]
      · have hst : nx (I 77) n (a + lcn (I 77) n a 8) = 42 := by have h9 := c3; rw [hc] at h9; exact h9
        refine v_aload_n 2 d_Qy_parseWordOrBeginning_26 rfl rfl rfl ?_
        refine v_aload_n 1 d_Qy_parseWordOrBeginning_27 rfl rfl rfl ?_
        refine v_geti d_Qy_parseWordOrBeginning_28 fl_Qy_26 (hS.o (by decide) rfl) rfl rfl ?_
        refine v_iload_n 0 d_Qy_parseWordOrBeginning_31 rfl rfl rfl ?_
        refine v_isub d_Qy_parseWordOrBeginning_32 rfl ?_
        refine v_nmi (fun z4 ez4 => ?_)
        have nz4 : z4 = nI ((a + lcn (I 77) n a 8) - a) := by rw [ez4, show I1 76 5 = nI (a + lcn (I 77) n a 8) from h5, show I 76 5 = nI a from ha]; exact pk_sub (by omega)
        refine v_cVw (as := [.int z4]) d_Qy_parseWordOrBeginning_33 cs_Qy_99 (c_Tm_compareOnly hC hS (d := d - 1) hi z4 (by omega)) (hS.tm hi) (by decide) rfl rfl rfl (by decide) (by omega) rfl (fun I2 J2 hm => ?_)
        have h52 : I2 76 5 = nI (a + lcn (I 77) n a 8) := by rw [hm.1]; exact h5
        refine v_aload_n 1 d_Qy_parseWordOrBeginning_36 rfl rfl rfl ?_
        refine v_dup d_Qy_parseWordOrBeginning_37 rfl rfl ?_
        refine v_geti d_Qy_parseWordOrBeginning_38 fl_Qy_26 (hS.o (by decide) rfl) rfl rfl ?_
        refine v_iconst (v := 1) d_Qy_parseWordOrBeginning_41 (by decide) rfl ?_
        refine v_iadd d_Qy_parseWordOrBeginning_42 rfl ?_
        refine v_nmi (fun z5 ez5 => ?_)
        have nz5 : z5 = nI ((a + lcn (I 77) n a 8) + 1) := by rw [ez5, show I2 76 5 = nI (a + lcn (I 77) n a 8) from h52, show 1 = nI 1 from rfl]; exact nI_add _ _
        refine v_puti d_Qy_parseWordOrBeginning_43 fl_Qy_26 (hS.o (by decide) rfl) rfl rfl rfl ?_
        generalize hI6 : u2 I2 76 5 z5 = I6
        refine v_vret d_Qy_parseWordOrBeginning_46 rfl ?_
        obtain ⟨g1, g2⟩ := hm
        subst g1
        refine ⟨rfl, rfl, ?_, Or.inr ⟨q1, ?_, ?_, ?_, ?_, ?_⟩⟩
        · refine FrT.trans hfr ⟨fun b b1 b2 => by rw [← hI6, u2_o b1], fun j j1 j2 => by rw [← hI6, u2_n (Or.inr j1)], fun j j1 => by rw [← hI6, u2_o (by omega)], fun b b1 b2 => by rw [g2, u2_o b1]⟩
        · rw [← hI6, u2_n (by decide)]; exact h6
        · rw [← hI6, u2_s, if_pos hst, nz5]
        · rw [← hI6, u2_o (by omega), q2, u2_s]; rfl
        · rw [g2, u2_o (by omega), q3, u2_s]
        · rw [if_pos hst, g2, u2_s, nz4, show a + lcn (I 77) n a 8 - a = lcn (I 77) n a 8 by omega]; rfl
/-- a term may end at a: a blank, a bar or the end -/
def okE (c : Nat → Int32) (n a : Nat) : Bool := decide (nx c n a = 32) || decide (nx c n a = 0) || decide (nx c n a = 124)
def EtQ (I : DI) (n a : Nat) (I' : DI) : Prop := (okE (I 77) n a = true ∧ I' = u2 I 76 5 (nI (skb (I 77) n a))) ∨ (okE (I 77) n a = false ∧ I' = u2 (u2 I 76 6 (nI a)) 76 5 (nI (skb (I 77) n a)))
set_option maxHeartbeats 4000000 in
set_option maxRecDepth 100000 in
theorem c_Qy_endTerm {C : CT} {l : Launch} {S : ShT} {I : DI} {J : DJ} {d : Nat} (hC : OKC C l) (hS : SHP S) {n a : Nat} (hn40 : n ≤ 40) (han : a ≤ n) (hn : I 76 1 = nI n) (ha : I 76 5 = nI a) (hd : 2 ≤ d) : Sp C l k_Qy_endTerm y_Qy_endTerm (d, 0, 0) [.ref 76] S I J (PU S J (EtQ I n a)) := by
  refine Sp.of hC cd_Qy_endTerm (Nat.le_of_ble_eq_true rfl) ?_
  show V C l k_Qy_endTerm (d, 0, 0) _ 0 [(0, .ref 76)] [] S I J (0, 0)
  refine v_aload_n 0 d_Qy_endTerm_0 rfl rfl rfl ?_
  refine v_cVp (as := []) d_Qy_endTerm_1 cs_Qy_45 (c_Qy_next hC hS (d := d - 1) (n := n) (a := a) hn40 han hn ha (by omega)) (hS.o (by decide) rfl) (by decide) rfl rfl rfl (by decide) (by omega) rfl ?_
  refine v_bipush (v := 32) d_Qy_endTerm_4 (by decide) rfl ?_
  refine v_icmp_eq (tgt := 24) d_Qy_endTerm_6 (by decide) rfl (fun c1 => ?_) (fun c1 => ?_)
  · refine v_aload_n 0 d_Qy_endTerm_24 rfl rfl rfl ?_
    refine v_cVu (as := []) d_Qy_endTerm_25 cs_Qy_70 (c_Qy_skipBlanks hC hS (d := d - 1) (n := n) (a := a) hn40 han hn ha) (hS.o (by decide) rfl) (by decide) rfl rfl rfl (by decide) (by omega) rfl (fun I9 hk => ?_)
    refine v_vret d_Qy_endTerm_28 rfl ?_
    exact ⟨rfl, rfl, rfl, Or.inl ⟨by unfold okE; first | (simp_all [bI]; done) | (by_cases h9 : nx (I 77) n a = 0 <;> simp_all [bI]), hk⟩⟩
  · refine v_aload_n 0 d_Qy_endTerm_9 rfl rfl rfl ?_
    refine v_cVp (as := []) d_Qy_endTerm_10 cs_Qy_76 (c_Qy_atAlternativeEnd hC hS (d := d - 1) (n := n) (a := a) hn40 han hn ha (by omega)) (hS.o (by decide) rfl) (by decide) rfl rfl rfl (by decide) (by omega) rfl ?_
    refine v_if_ne (tgt := 24) d_Qy_endTerm_13 (by decide) rfl (fun c2 => ?_) (fun c2 => ?_)
    · refine v_aload_n 0 d_Qy_endTerm_24 rfl rfl rfl ?_
      refine v_cVu (as := []) d_Qy_endTerm_25 cs_Qy_70 (c_Qy_skipBlanks hC hS (d := d - 1) (n := n) (a := a) hn40 han hn ha) (hS.o (by decide) rfl) (by decide) rfl rfl rfl (by decide) (by omega) rfl (fun I9 hk => ?_)
      refine v_vret d_Qy_endTerm_28 rfl ?_
      exact ⟨rfl, rfl, rfl, Or.inl ⟨by unfold okE; first | (simp_all [bI]; done) | (by_cases h9 : nx (I 77) n a = 0 <;> simp_all [bI]), hk⟩⟩
    · refine v_aload_n 0 d_Qy_endTerm_16 rfl rfl rfl ?_
      refine v_aload_n 0 d_Qy_endTerm_17 rfl rfl rfl ?_
      refine v_geti d_Qy_endTerm_18 fl_Qy_26 (hS.o (by decide) rfl) rfl rfl ?_
      refine v_puti d_Qy_endTerm_21 fl_Qy_29 (hS.o (by decide) rfl) rfl rfl rfl ?_
      generalize hI3 : u2 I 76 6 (I 76 5) = I3
      refine v_aload_n 0 d_Qy_endTerm_24 rfl rfl rfl ?_
      refine v_cVu (as := []) d_Qy_endTerm_25 cs_Qy_70 (c_Qy_skipBlanks hC hS (d := d - 1) (n := n) (a := a) hn40 han (by rw [← hI3, u2_n (by decide)]; exact hn) (by rw [← hI3, u2_n (by decide)]; exact ha)) (hS.o (by decide) rfl) (by decide) rfl rfl rfl (by decide) (by omega) rfl (fun I9 hk => ?_)
      refine v_vret d_Qy_endTerm_28 rfl ?_
      exact ⟨rfl, rfl, rfl, Or.inr ⟨by unfold okE; simp_all [bI], by rw [hk, show I3 77 = I 77 by rw [← hI3, u2_o (by decide)], ← hI3, ha]⟩⟩
end
section
def phF (c : Nat → Int32) (n : Nat) : Nat → Nat → List (Nat × Nat) → Option Nat × Nat × List (Nat × Nat)
  | 0, a, ws => (none, a, ws)
  | k + 1, a, ws => if isLt (nx c n a) then (if badW c n a then (some (a + lcn c n a 8), a, ws) else phF c n k (skb c n (a + lcn c n a 8)) (ws ++ [(a, lcn c n a 8)])) else (none, a, ws)
theorem phF_s (c : Nat → Int32) (n k a : Nat) (ws : List (Nat × Nat)) : phF c n (k + 1) a ws = if isLt (nx c n a) then (if badW c n a then (some (a + lcn c n a 8), a, ws) else phF c n k (skb c n (a + lcn c n a 8)) (ws ++ [(a, lcn c n a 8)])) else (none, a, ws) := rfl
/-- a phrase from behind its first quotation mark: a fault's place, or where it ends and its words -/
def phr (c : Nat → Int32) (n a : Nat) : Nat ⊕ (Nat × List (Nat × Nat)) := match (phF c n 4 (skb c n a) []).1 with
  | some f => .inl f
  | none => if (phF c n 4 (skb c n a) []).2.2 = [] ∨ ¬ nx c n (phF c n 4 (skb c n a) []).2.1 = 34 then .inl (phF c n 4 (skb c n a) []).2.1 else .inr ((phF c n 4 (skb c n a) []).2.1 + 1, (phF c n 4 (skb c n a) []).2.2)
/-- the term i while its words are read -/
def PhS (I0 : DI) (J0 : DJ) (i n b : Nat) (ws : List (Nat × Nat)) (I : DI) (J : DJ) : Prop :=
  FrT i I0 J0 I J ∧ I 76 6 = -1 ∧ I 76 5 = nI b ∧ b ≤ n ∧ I (79 + 2 * i) 1 = nI ws.length ∧ (∀ j s l, ws[j]? = some (s, l) → J (80 + 2 * i) j = wC (I0 77) s l) ∧ J (79 + 2 * i) 4 = J0 (79 + 2 * i) 4
def PhQ (I0 : DI) (J0 : DJ) (i n a : Nat) (I : DI) (J : DJ) : Prop := match phr (I0 77) n a with
  | .inl f => FrT i I0 J0 I J ∧ I 76 6 = nI f ∧ f ≤ n ∧ ∃ b, b ≤ n ∧ I 76 5 = nI b
  | .inr p => PhS I0 J0 i n p.1 p.2 I J
theorem FrT.rf {i : Nat} {I : DI} {J : DJ} : FrT i I J I J := ⟨fun _ _ _ => rfl, fun _ _ _ => rfl, fun _ _ => rfl, fun _ _ _ => rfl⟩
theorem FrT.at5 {i : Nat} {I0 I : DI} {J0 J : DJ} (hi : i < 21) (h : FrT i I0 J0 I J) (x : Int32) : FrT i I0 J0 (u2 I 76 5 x) J := h.trans ⟨fun b b1 b2 => by rw [u2_o b1], fun j j1 j2 => by rw [u2_n (Or.inr j1)], fun j j1 => by rw [u2_o (by omega)], fun _ _ _ => rfl⟩
theorem FrT.at6 {i : Nat} {I0 I : DI} {J0 J : DJ} (hi : i < 21) (h : FrT i I0 J0 I J) (x : Int32) : FrT i I0 J0 (u2 I 76 6 x) J := h.trans ⟨fun b b1 b2 => by rw [u2_o b1], fun j j1 j2 => by rw [u2_n (Or.inr j2)], fun j j1 => by rw [u2_o (by omega)], fun _ _ _ => rfl⟩
theorem FrT.c {i : Nat} {I0 I : DI} {J0 J : DJ} (hi : i < 21) (h : FrT i I0 J0 I J) : I 77 = I0 77 := h.1 77 (by decide) (by omega)
theorem FrT.n {i : Nat} {I0 I : DI} {J0 J : DJ} (h : FrT i I0 J0 I J) : I 76 1 = I0 76 1 := h.2.1 1 (by decide) (by decide)
theorem PhS.add {I0 I I1 : DI} {J0 J J1 : DJ} {i n b : Nat} {ws : List (Nat × Nat)} (hi : i < 21) (h : PhS I0 J0 i n b ws I J) (hb : badW (I0 77) n b = false) (h1 : I1 = u2 (u2 I 76 5 (nI (b + lcn (I0 77) n b 8))) (79 + 2 * i) 1 (nI (ws.length + 1))) (h2 : J1 = u2 J (80 + 2 * i) ws.length (wC (I0 77) b (lcn (I0 77) n b 8))) : PhS I0 J0 i n (skb (I0 77) n (b + lcn (I0 77) n b 8)) (ws ++ [(b, lcn (I0 77) n b 8)]) (u2 I1 76 5 (nI (skb (I0 77) n (b + lcn (I0 77) n b 8)))) J1 := by
  obtain ⟨g1, g2, g3, g4, g5, g6, g7⟩ := h
  refine ⟨FrT.at5 hi (g1.trans ⟨fun b b1 b2 => by rw [h1, u2_o b2, u2_o b1], fun j j1 j2 => by rw [h1, u2_o (by omega), u2_n (Or.inr j1)], fun j j1 => by rw [h1, u2_n (Or.inr j1), u2_o (by omega)], fun b b1 b2 => by rw [h2, u2_o b2]⟩) _, ?_, ?_, ?_, ?_, ?_, ?_⟩
  · rw [u2_n (by decide), h1, u2_o (by omega), u2_n (by decide)]; exact g2
  · rw [u2_s]
  · exact (skb_le (lcn_n 8 b g4)).2
  · rw [u2_o (by omega), h1, u2_s]; simp
  · intro j s l hj
    by_cases hl : j < ws.length
    · rw [List.getElem?_append_left hl] at hj
      rw [h2, u2_n (Or.inr (by omega))]
      exact g6 j s l hj
    · rw [List.getElem?_append_right (by omega)] at hj
      have hz : j - ws.length < 1 := (List.getElem?_eq_some_iff.mp hj).1
      rw [show j - ws.length = 0 by omega] at hj
      cases hj
      rw [h2, show j = ws.length by omega, u2_s]
  · rw [h2, u2_o (by omega)]; exact g7
set_option maxHeartbeats 4000000 in
set_option maxRecDepth 100000 in
theorem lpF_Qy_parsePhrase {C : CT} {l : Launch} {S : ShT} {d : Nat} (hC : OKC C l) (hS : SHP S) (hd : 2 ≤ d) {I0 : DI} {J0 : DJ} {i n a : Nat} (hi : i < 21) (hn40 : n ≤ 40) (hn : I0 76 1 = nI n) {I : DI} {J : DJ} {x : Int32} {f b : Nat} (hp : phr (I0 77) n a = .inl f) (hfr : FrT i I0 J0 I J) (h6 : I 76 6 = nI f) (hf : f ≤ n) (hb : b ≤ n) (h5 : I 76 5 = nI b) : V C l k_Qy_parsePhrase (d, 0, 0) (PW S (PhQ I0 J0 i n a)) 6 [(2, .int x), (0, .ref 76), (1, .ref (79 + 2 * i))] [] S I J (0, 0) := by
  refine v_iload_n 0 d_Qy_parsePhrase_6 rfl rfl rfl ?_
  refine v_iconst (v := 4) d_Qy_parsePhrase_7 (by decide) rfl ?_
  refine v_icmp_ge (tgt := 43) d_Qy_parsePhrase_8 (by decide) rfl (fun c1 => ?_) (fun c1 => ?_)
  · refine v_aload_n 1 d_Qy_parsePhrase_43 rfl rfl rfl ?_
    refine v_cVp (as := []) d_Qy_parsePhrase_44 cs_Qy_41 (c_Qy_isFaulty hC hS (d := d - 1) (by omega)) (hS.o (by decide) rfl) (by decide) rfl rfl rfl (by decide) (by omega) rfl ?_
    refine v_if_eq (tgt := 51) d_Qy_parsePhrase_47 (by decide) rfl (fun c2 => ?_) (fun c2 => ?_)
    · exact absurd c2 (by rw [h6]; simp [bI, nI_m1 (show f < 100 by omega)])
    · refine v_vret d_Qy_parsePhrase_50 rfl ?_
      refine ⟨rfl, rfl, ?_⟩
      unfold PhQ
      rw [hp]
      exact ⟨hfr, h6, hf, b, hb, h5⟩
  · refine v_aload_n 1 d_Qy_parsePhrase_11 rfl rfl rfl ?_
    refine v_cVp (as := []) d_Qy_parsePhrase_12 cs_Qy_41 (c_Qy_isFaulty hC hS (d := d - 1) (by omega)) (hS.o (by decide) rfl) (by decide) rfl rfl rfl (by decide) (by omega) rfl ?_
    refine v_if_ne (tgt := 43) d_Qy_parsePhrase_15 (by decide) rfl (fun c3 => ?_) (fun c3 => ?_)
    · refine v_aload_n 1 d_Qy_parsePhrase_43 rfl rfl rfl ?_
      refine v_cVp (as := []) d_Qy_parsePhrase_44 cs_Qy_41 (c_Qy_isFaulty hC hS (d := d - 1) (by omega)) (hS.o (by decide) rfl) (by decide) rfl rfl rfl (by decide) (by omega) rfl ?_
      refine v_if_eq (tgt := 51) d_Qy_parsePhrase_47 (by decide) rfl (fun c4 => ?_) (fun c4 => ?_)
      · exact absurd c4 (by rw [h6]; simp [bI, nI_m1 (show f < 100 by omega)])
      · refine v_vret d_Qy_parsePhrase_50 rfl ?_
        refine ⟨rfl, rfl, ?_⟩
        unfold PhQ
        rw [hp]
        exact ⟨hfr, h6, hf, b, hb, h5⟩
    · exact absurd c3 (by rw [h6]; simp [bI, nI_m1 (show f < 100 by omega)])
theorem isQ_lt {c : Nat → Int32} {n a : Nat} {x : Int32} (h : nx c n a = x) (h0 : ¬ x = 0 := by decide) : a + 1 ≤ n := by
  rcases Nat.lt_or_ge a n with h9 | h9
  · exact h9
  · rw [nx_ge (by omega)] at h
    exact absurd h.symm h0
set_option maxHeartbeats 4000000 in
set_option maxRecDepth 100000 in
theorem lpE_Qy_parsePhrase {C : CT} {l : Launch} {S : ShT} {d : Nat} (hC : OKC C l) (hS : SHP S) (hd : 2 ≤ d) {I0 : DI} {J0 : DJ} {i n a : Nat} (hi : i < 21) (hn40 : n ≤ 40) (hn : I0 76 1 = nI n) {I : DI} {J : DJ} {x : Int32} {b : Nat} {ws : List (Nat × Nat)} (hr : phF (I0 77) n 4 (skb (I0 77) n a) [] = (none, b, ws)) (hwl : ws.length ≤ 4) (hPS : PhS I0 J0 i n b ws I J) : V C l k_Qy_parsePhrase (d, 0, 0) (PW S (PhQ I0 J0 i n a)) 43 [(2, .int x), (0, .ref 76), (1, .ref (79 + 2 * i))] [] S I J (0, 0) := by
  refine v_aload_n 1 d_Qy_parsePhrase_43 rfl rfl rfl ?_
  refine v_cVp (as := []) d_Qy_parsePhrase_44 cs_Qy_41 (c_Qy_isFaulty hC hS (d := d - 1) (by omega)) (hS.o (by decide) rfl) (by decide) rfl rfl rfl (by decide) (by omega) rfl ?_
  refine v_if_eq (tgt := 51) d_Qy_parsePhrase_47 (by decide) rfl (fun c1 => ?_) (fun c1 => ?_)
  · refine v_aload_n 2 d_Qy_parsePhrase_51 rfl rfl rfl ?_
    refine v_cVp (as := []) d_Qy_parsePhrase_52 cs_Qy_105 (c_Tm_isEmpty hC hS (d := d - 1) hi (by omega)) (hS.tm hi) (by decide) rfl rfl rfl (by decide) (by omega) rfl ?_
    refine v_if_ne (tgt := 67) d_Qy_parsePhrase_55 (by decide) rfl (fun c2 => ?_) (fun c2 => ?_)
    · have hws : ws = [] := by by_cases h9 : ws = []; exact h9; exact absurd (show bI (decide (I (79 + 2 * i) 1 = 0)) = 0 by rw [hPS.2.2.2.2.1]; simp [bI, nI_ne0 (List.length_pos_iff.mpr h9) (by omega)]) c2
      refine v_aload_n 1 d_Qy_parsePhrase_67 rfl rfl rfl ?_
      refine v_aload_n 1 d_Qy_parsePhrase_68 rfl rfl rfl ?_
      refine v_geti d_Qy_parsePhrase_69 fl_Qy_26 (hS.o (by decide) rfl) rfl rfl ?_
      refine v_puti d_Qy_parsePhrase_72 fl_Qy_29 (hS.o (by decide) rfl) rfl rfl rfl ?_
      generalize hI3 : u2 I 76 6 (I 76 5) = I3
      refine v_goto (tgt := 88) d_Qy_parsePhrase_75 (by decide) ?_
      refine v_vret d_Qy_parsePhrase_88 rfl ?_
      refine ⟨rfl, rfl, ?_⟩
      unfold PhQ phr
      rw [hr]
      show (match (if ws = [] ∨ ¬ nx (I0 77) n b = 34 then _ else _ : Nat ⊕ (Nat × List (Nat × Nat))) with | .inl f => _ | .inr p => _)
      rw [if_pos (Or.inl hws)]
      exact ⟨by rw [← hI3]; exact hPS.1.at6 hi _, by rw [← hI3, u2_s]; exact hPS.2.2.1, hPS.2.2.2.1, b, hPS.2.2.2.1, by rw [← hI3, u2_n (by decide)]; exact hPS.2.2.1⟩
    · have hws : ¬ ws = [] := by intro h9; have h8 := c2; rw [hPS.2.2.2.2.1, h9] at h8; simp [bI, nI_0] at h8
      refine v_aload_n 1 d_Qy_parsePhrase_58 rfl rfl rfl ?_
      refine v_cVp (as := []) d_Qy_parsePhrase_59 cs_Qy_45 (c_Qy_next hC hS (d := d - 1) (n := n) (a := b) hn40 hPS.2.2.2.1 (by rw [hPS.1.n]; exact hn) hPS.2.2.1 (by omega)) (hS.o (by decide) rfl) (by decide) rfl rfl rfl (by decide) (by omega) rfl ?_
      refine v_bipush (v := 34) d_Qy_parsePhrase_62 (by decide) rfl ?_
      refine v_icmp_eq (tgt := 78) d_Qy_parsePhrase_64 (by decide) rfl (fun c4 => ?_) (fun c4 => ?_)
      · have hq : nx (I0 77) n b = 34 := by have h9 := c4; rw [hPS.1.c hi] at h9; exact h9
        refine v_aload_n 1 d_Qy_parsePhrase_78 rfl rfl rfl ?_
        refine v_dup d_Qy_parsePhrase_79 rfl rfl ?_
        refine v_geti d_Qy_parsePhrase_80 fl_Qy_26 (hS.o (by decide) rfl) rfl rfl ?_
        refine v_iconst (v := 1) d_Qy_parsePhrase_83 (by decide) rfl ?_
        refine v_iadd d_Qy_parsePhrase_84 rfl ?_
        refine v_nmi (fun z5 ez5 => ?_)
        have nz5 : z5 = nI (b + 1) := by rw [ez5, show I 76 5 = nI b from hPS.2.2.1, show 1 = nI 1 from rfl]; exact nI_add _ _
        refine v_puti d_Qy_parsePhrase_85 fl_Qy_26 (hS.o (by decide) rfl) rfl rfl rfl ?_
        generalize hI6 : u2 I 76 5 z5 = I6
        refine v_vret d_Qy_parsePhrase_88 rfl ?_
        refine ⟨rfl, rfl, ?_⟩
        unfold PhQ phr
        rw [hr]
        show (match (if ws = [] ∨ ¬ nx (I0 77) n b = 34 then _ else _ : Nat ⊕ (Nat × List (Nat × Nat))) with | .inl f => _ | .inr p => _)
        rw [if_neg (by rintro (h9 | h9); exact hws h9; exact h9 hq)]
        obtain ⟨g1, g2, g3, g4, g5, g6, g7⟩ := hPS
        exact ⟨by rw [← hI6]; exact g1.at5 hi _, by rw [← hI6, u2_n (by decide)]; exact g2, by rw [← hI6, u2_s]; exact nz5, isQ_lt hq, by rw [← hI6, u2_o (by omega)]; exact g5, g6, g7⟩
      · have hq : ¬ nx (I0 77) n b = 34 := by have h9 := c4; rw [hPS.1.c hi] at h9; exact h9
        refine v_aload_n 1 d_Qy_parsePhrase_67 rfl rfl rfl ?_
        refine v_aload_n 1 d_Qy_parsePhrase_68 rfl rfl rfl ?_
        refine v_geti d_Qy_parsePhrase_69 fl_Qy_26 (hS.o (by decide) rfl) rfl rfl ?_
        refine v_puti d_Qy_parsePhrase_72 fl_Qy_29 (hS.o (by decide) rfl) rfl rfl rfl ?_
        generalize hI7 : u2 I 76 6 (I 76 5) = I7
        refine v_goto (tgt := 88) d_Qy_parsePhrase_75 (by decide) ?_
        refine v_vret d_Qy_parsePhrase_88 rfl ?_
        refine ⟨rfl, rfl, ?_⟩
        unfold PhQ phr
        rw [hr]
        show (match (if ws = [] ∨ ¬ nx (I0 77) n b = 34 then _ else _ : Nat ⊕ (Nat × List (Nat × Nat))) with | .inl f => _ | .inr p => _)
        rw [if_pos (Or.inr hq)]
        exact ⟨by rw [← hI7]; exact hPS.1.at6 hi _, by rw [← hI7, u2_s]; exact hPS.2.2.1, hPS.2.2.2.1, b, hPS.2.2.2.1, by rw [← hI7, u2_n (by decide)]; exact hPS.2.2.1⟩
  · exact absurd (by rw [hPS.2.1]; simp [bI]) c1
end
section
set_option maxHeartbeats 4000000 in
set_option maxRecDepth 100000 in
theorem lp_Qy_parsePhrase {C : CT} {l : Launch} {S : ShT} {d : Nat} (hC : OKC C l) (hS : SHP S) (hd : 2 ≤ d) {I0 : DI} {J0 : DJ} {i n a : Nat} (hi : i < 21) (hn40 : n ≤ 40) (hn : I0 76 1 = nI n) : ∀ (n0 t b : Nat) (ws : List (Nat × Nat)) (I : DI) (J : DJ) (x : Int32), x = nI t → t = ws.length → t ≤ 4 → 4 < t + n0 → phF (I0 77) n 4 (skb (I0 77) n a) [] = phF (I0 77) n (4 - t) b ws → PhS I0 J0 i n b ws I J → V C l k_Qy_parsePhrase (d, 0, 0) (PW S (PhQ I0 J0 i n a)) 6 [(2, .int x), (0, .ref 76), (1, .ref (79 + 2 * i))] [] S I J (0, 0) := by
  intro n0
  induction n0 with
  | zero =>
    intro t b ws I J x h1 h2 h3 h4
    omega
  | succ n0 ih =>
    intro t b ws I J x ex htw ht hf hr hPS
    have hc : I 77 = I0 77 := hPS.1.c hi
    have hn1 : I 76 1 = nI n := by rw [hPS.1.n]; exact hn
    refine v_iload_n 0 d_Qy_parsePhrase_6 rfl rfl rfl ?_
    refine v_iconst (v := 4) d_Qy_parsePhrase_7 (by decide) rfl ?_
    refine v_icmp_ge (tgt := 43) d_Qy_parsePhrase_8 (by decide) rfl (fun c1 => ?_) (fun c1 => ?_)
    · have ht4 : t = 4 := by rcases Nat.lt_or_ge t 4 with h9 | h9; exact absurd c1 (by rw [ex]; exact nI_ge (b := 4) h9 (by decide)); omega
      exact lpE_Qy_parsePhrase hC hS hd hi hn40 hn (by rw [hr, ht4]; rfl) (by omega) hPS
    · have ht4 : t < 4 := by rcases Nat.lt_or_ge t 4 with h9 | h9; exact h9; exact absurd (by rw [ex]; exact nI_le (a := 4) h9 (by omega)) c1
      refine v_aload_n 1 d_Qy_parsePhrase_11 rfl rfl rfl ?_
      refine v_cVp (as := []) d_Qy_parsePhrase_12 cs_Qy_41 (c_Qy_isFaulty hC hS (d := d - 1) (by omega)) (hS.o (by decide) rfl) (by decide) rfl rfl rfl (by decide) (by omega) rfl ?_
      refine v_if_ne (tgt := 43) d_Qy_parsePhrase_15 (by decide) rfl (fun c2 => ?_) (fun c2 => ?_)
      · exact absurd (by rw [hPS.2.1]; simp [bI]) c2
      · refine v_aload_n 1 d_Qy_parsePhrase_18 rfl rfl rfl ?_
        refine v_cVp (as := []) d_Qy_parsePhrase_19 cs_Qy_45 (c_Qy_next hC hS (d := d - 1) (n := n) (a := b) hn40 hPS.2.2.2.1 hn1 hPS.2.2.1 (by omega)) (hS.o (by decide) rfl) (by decide) rfl rfl rfl (by decide) (by omega) rfl ?_
        refine v_cNp (as := [.int (nx (I 77) n b)]) d_Qy_parsePhrase_22 cs_Qy_102 (c_Fi_isLetter hC (d := d - 1) (nx (I 77) n b) (by omega)) rfl rfl (by decide) (by omega) rfl ?_
        refine v_if_eq (tgt := 43) d_Qy_parsePhrase_25 (by decide) rfl (fun c3 => ?_) (fun c3 => ?_)
        · have hL : isLt (nx (I0 77) n b) = false := by have h9 := c3; rw [hc] at h9; cases h8 : isLt (nx (I0 77) n b); rfl; rw [h8] at h9; exact absurd h9 (by decide)
          exact lpE_Qy_parsePhrase hC hS hd hi hn40 hn (by rw [hr, show 4 - t = (4 - (t + 1)) + 1 by omega, phF_s, hL]; rfl) (by omega) hPS
        · have hL : isLt (nx (I0 77) n b) = true := by have h9 := c3; rw [hc] at h9; cases h8 : isLt (nx (I0 77) n b); rw [h8] at h9; exact absurd rfl h9; rfl
          have hln : b + lcn (I0 77) n b 8 ≤ n := lcn_n 8 b hPS.2.2.2.1
          refine v_aload_n 1 d_Qy_parsePhrase_28 rfl rfl rfl ?_
          refine v_aload_n 2 d_Qy_parsePhrase_29 rfl rfl rfl ?_
          refine v_cVw (as := [.ref (79 + 2 * i)]) d_Qy_parsePhrase_30 cs_Qy_96 (c_Qy_parseWord hC hS (d := d - 1) (n := n) (a := b) (s := t) hi hn40 hPS.2.2.2.1 (by omega) hn1 hPS.2.2.1 (by rw [htw]; exact hPS.2.2.2.2.1) (by omega)) (hS.o (by decide) rfl) (by decide) rfl rfl rfl (by decide) (by omega) rfl (fun I1 J1 hw => ?_)
          have hfr := PwQ.fr hi hw
          rcases id hw with ⟨q1, q2, q3⟩ | ⟨q1, q2, q3⟩
          · rw [hc] at q1 q2
            have h62 : I1 76 6 = nI (b + lcn (I0 77) n b 8) := by rw [q2, u2_s]
            have h52 : I1 76 5 = nI (b + lcn (I0 77) n b 8) := by rw [q2, u2_n (by decide), u2_s]
            have hn2 : I1 76 1 = nI n := by rw [hfr.n]; exact hn1
            refine v_aload_n 1 d_Qy_parsePhrase_33 rfl rfl rfl ?_
            refine v_cVu (as := []) d_Qy_parsePhrase_34 cs_Qy_70 (c_Qy_skipBlanks hC hS (d := d - 1) (n := n) (a := b + lcn (I0 77) n b 8) hn40 hln hn2 h52) (hS.o (by decide) rfl) (by decide) rfl rfl rfl (by decide) (by omega) rfl (fun I2 hk => ?_)
            obtain ⟨x4, ex4⟩ : ∃ y : Int32, y = x + 1 := ⟨_, rfl⟩
            have nx4 : x4 = nI (t + 1) := by rw [ex4, show x = nI t from ex]; exact nI_1 _
            refine v_iinc (n := 0) (v := x4) (L' := [(2, .int x4), (0, .ref 76), (1, .ref (79 + 2 * i))]) d_Qy_parsePhrase_37 rfl (by rw [ex4]; rfl) (by decide) rfl rfl ?_
            refine v_goto (tgt := 6) d_Qy_parsePhrase_40 (by decide) ?_
            have hphr : phr (I0 77) n a = .inl (b + lcn (I0 77) n b 8) := by unfold phr; rw [hr, show 4 - t = (4 - (t + 1)) + 1 by omega, phF_s, if_pos hL, if_pos q1]
            exact lpF_Qy_parsePhrase hC hS hd hi hn40 hn hphr (by rw [hk]; exact (hPS.1.trans hfr).at5 hi _) (by rw [hk, u2_n (by decide)]; exact h62) hln (b := skb (I1 77) n (b + lcn (I0 77) n b 8)) (skb_le hln).2 (by rw [hk, u2_s])
          · rw [hc] at q1 q2 q3
            have h52 : I1 76 5 = nI (b + lcn (I0 77) n b 8) := by rw [q2, u2_o (by omega), u2_s]
            have hn2 : I1 76 1 = nI n := by rw [hfr.n]; exact hn1
            refine v_aload_n 1 d_Qy_parsePhrase_33 rfl rfl rfl ?_
            refine v_cVu (as := []) d_Qy_parsePhrase_34 cs_Qy_70 (c_Qy_skipBlanks hC hS (d := d - 1) (n := n) (a := b + lcn (I0 77) n b 8) hn40 hln hn2 h52) (hS.o (by decide) rfl) (by decide) rfl rfl rfl (by decide) (by omega) rfl (fun I2 hk => ?_)
            obtain ⟨x5, ex5⟩ : ∃ y : Int32, y = x + 1 := ⟨_, rfl⟩
            have nx5 : x5 = nI (t + 1) := by rw [ex5, show x = nI t from ex]; exact nI_1 _
            refine v_iinc (n := 0) (v := x5) (L' := [(2, .int x5), (0, .ref 76), (1, .ref (79 + 2 * i))]) d_Qy_parsePhrase_37 rfl (by rw [ex5]; rfl) (by decide) rfl rfl ?_
            refine v_goto (tgt := 6) d_Qy_parsePhrase_40 (by decide) ?_
            have hc1 : I1 77 = I0 77 := (hfr.c hi).trans hc
            rw [hc1] at hk
            rw [htw] at q2 q3
            subst hk
            exact ih (t + 1) _ _ _ _ _ nx5 (by rw [htw]; simp) (by omega) (by omega) (by rw [hr, show 4 - t = (4 - (t + 1)) + 1 by omega, phF_s, if_pos hL, if_neg (by rw [q1]; decide)]) (hPS.add hi q1 q2 q3)
set_option maxHeartbeats 4000000 in
set_option maxRecDepth 100000 in
theorem c_Qy_parsePhrase {C : CT} {l : Launch} {S : ShT} {I : DI} {J : DJ} {d : Nat} (hC : OKC C l) (hS : SHP S) {i n a : Nat} (hi : i < 21) (hn40 : n ≤ 40) (han : a ≤ n) (hn : I 76 1 = nI n) (ha : I 76 5 = nI a) (hs : I (79 + 2 * i) 1 = nI 0) (hf : I 76 6 = -1) (hd : 2 ≤ d) : Sp C l k_Qy_parsePhrase y_Qy_parsePhrase (d, 0, 0) [.ref 76, .ref (79 + 2 * i)] S I J (PW S (PhQ I J i n a)) := by
  refine Sp.of hC cd_Qy_parsePhrase (Nat.le_of_ble_eq_true rfl) ?_
  show V C l k_Qy_parsePhrase (d, 0, 0) _ 0 [(0, .ref 76), (1, .ref (79 + 2 * i))] [] S I J (0, 0)
  refine v_aload_n 0 d_Qy_parsePhrase_0 rfl rfl rfl ?_
  refine v_cVu (as := []) d_Qy_parsePhrase_1 cs_Qy_70 (c_Qy_skipBlanks hC hS (d := d - 1) (n := n) (a := a) hn40 han hn ha) (hS.o (by decide) rfl) (by decide) rfl rfl rfl (by decide) (by omega) rfl (fun I2 hk => ?_)
  refine v_iconst (v := 0) d_Qy_parsePhrase_4 (by decide) rfl ?_
  refine v_istore_n (L' := [(2, .int 0), (0, .ref 76), (1, .ref (79 + 2 * i))]) d_Qy_parsePhrase_5 rfl (by decide) rfl rfl ?_
  subst hk
  exact lp_Qy_parsePhrase hC hS hd hi hn40 hn 5 0 (skb (I 77) n a) [] _ _ _ rfl rfl (by omega) (by omega) rfl ⟨FrT.rf.at5 hi _, by rw [u2_n (by decide)]; exact hf, u2_s, (skb_le han).2, by rw [u2_o (by omega)]; exact hs, fun j s l hj => by simp at hj, rfl⟩
end
section
/-- a term from a on: a fault's place, or where it ends (behind blanks), with -, with *, its words -/
def trE (c : Nat → Int32) (n b : Nat) (neg pre : Bool) (ws : List (Nat × Nat)) : Nat ⊕ (Nat × Bool × Bool × List (Nat × Nat)) := if okE c n b then .inr (skb c n b, neg, pre, ws) else .inl b
def trB (c : Nat → Int32) (n b : Nat) (neg : Bool) : Nat ⊕ (Nat × Bool × Bool × List (Nat × Nat)) :=
  if nx c n b = 34 then (match phr c n (b + 1) with
    | .inl f => .inl f
    | .inr p => trE c n p.1 neg false p.2)
  else if badW c n b then .inl (b + lcn c n b 8)
  else trE c n (b + lcn c n b 8 + if nx c n (b + lcn c n b 8) = 42 then 1 else 0) neg (decide (nx c n (b + lcn c n b 8) = 42)) [(b, lcn c n b 8)]
def trm (c : Nat → Int32) (n a : Nat) : Nat ⊕ (Nat × Bool × Bool × List (Nat × Nat)) := if nx c n a = 45 then trB c n (a + 1) true else trB c n a false
/-- the frame of the term i -/
def FrA (i : Nat) (I : DI) (J : DJ) (I' : DI) (J' : DJ) : Prop := (∀ b, b ≠ 76 → b ≠ 79 + 2 * i → I' b = I b) ∧ (∀ j, j ≠ 3 → j ≠ 5 → j ≠ 6 → I' 76 j = I 76 j) ∧ I' 76 3 = nI (i + 1) ∧ (∀ b, b ≠ 79 + 2 * i → b ≠ 80 + 2 * i → J' b = J b)
theorem FrA.t {i : Nat} {I I1 I2 : DI} {J J1 J2 : DJ} (h : FrA i I J I1 J1) (g : FrT i I1 J1 I2 J2) : FrA i I J I2 J2 :=
  ⟨fun b b1 b2 => (g.1 b b1 b2).trans (h.1 b b1 b2), fun j j1 j2 j3 => (g.2.1 j j2 j3).trans (h.2.1 j j1 j2 j3), (g.2.1 3 (by decide) (by decide)).trans h.2.2.1, fun b b1 b2 => (g.2.2.2 b b1 b2).trans (h.2.2.2 b b1 b2)⟩
theorem FrA.at5 {i : Nat} {I0 I : DI} {J0 J : DJ} (hi : i < 21) (h : FrA i I0 J0 I J) (x : Int32) : FrA i I0 J0 (u2 I 76 5 x) J := h.t (FrT.rf.at5 hi x)
theorem FrA.at6 {i : Nat} {I0 I : DI} {J0 J : DJ} (hi : i < 21) (h : FrA i I0 J0 I J) (x : Int32) : FrA i I0 J0 (u2 I 76 6 x) J := h.t (FrT.rf.at6 hi x)
theorem FrA.c {i : Nat} {I0 I : DI} {J0 J : DJ} (hi : i < 21) (h : FrA i I0 J0 I J) : I 77 = I0 77 := h.1 77 (by decide) (by omega)
theorem FrA.n {i : Nat} {I0 I : DI} {J0 J : DJ} (h : FrA i I0 J0 I J) : I 76 1 = I0 76 1 := h.2.1 1 (by decide) (by decide) (by decide)
/-- the term i holds this -/
def TmH (c : Nat → Int32) (i g : Nat) (neg pre : Bool) (ws : List (Nat × Nat)) (I : DI) (J : DJ) : Prop :=
  I (79 + 2 * i) 1 = nI ws.length ∧ I (79 + 2 * i) 2 = nI g ∧ I (79 + 2 * i) 3 = bI neg ∧ (∀ j s l, ws[j]? = some (s, l) → J (80 + 2 * i) j = wC c s l) ∧ J (79 + 2 * i) 4 = if pre then msk (ws.getD 0 (0, 0)).2 else -1
def TmQ (I0 : DI) (J0 : DJ) (i n a g : Nat) (I : DI) (J : DJ) : Prop := FrA i I0 J0 I J ∧ match trm (I0 77) n a with
  | .inl f => I 76 6 = nI f ∧ f ≤ n ∧ ∃ b, b ≤ n ∧ I 76 5 = nI b
  | .inr p => I 76 6 = -1 ∧ I 76 5 = nI p.1 ∧ p.1 ≤ n ∧ TmH (I0 77) i g p.2.1 p.2.2.1 p.2.2.2 I J
set_option maxHeartbeats 4000000 in
set_option maxRecDepth 100000 in
theorem lpF_Qy_parseTerm {C : CT} {l : Launch} {S : ShT} {d : Nat} (hC : OKC C l) (hS : SHP S) (hd : 3 ≤ d) {I0 : DI} {J0 : DJ} {i n a g : Nat} (hi : i < 21) (hn40 : n ≤ 40) (hn : I0 76 1 = nI n) {I : DI} {J : DJ} {f b : Nat} (hp : trm (I0 77) n a = .inl f) (hfr : FrA i I0 J0 I J) (h6 : I 76 6 = nI f) (hf : f ≤ n) (hb : b ≤ n) (h5 : I 76 5 = nI b) : V C l k_Qy_parseTerm (d, 0, 0) (PW S (TmQ I0 J0 i n a g)) 83 [(1, .ref (79 + 2 * i)), (0, .ref 76)] [] S I J (0, 0) := by
  refine v_aload_n 1 d_Qy_parseTerm_83 rfl rfl rfl ?_
  refine v_cVp (as := []) d_Qy_parseTerm_84 cs_Qy_41 (c_Qy_isFaulty hC hS (d := d - 1) (by omega)) (hS.o (by decide) rfl) (by decide) rfl rfl rfl (by decide) (by omega) rfl ?_
  refine v_if_ne (tgt := 94) d_Qy_parseTerm_87 (by decide) rfl (fun c1 => ?_) (fun c1 => ?_)
  · refine v_vret d_Qy_parseTerm_94 rfl ?_
    refine ⟨rfl, rfl, hfr, ?_⟩
    rw [hp]
    exact ⟨h6, hf, b, hb, h5⟩
  · exact absurd c1 (by rw [h6]; simp [bI, nI_m1 (show f < 100 by omega)])
set_option maxHeartbeats 4000000 in
set_option maxRecDepth 100000 in
theorem lpE_Qy_parseTerm {C : CT} {l : Launch} {S : ShT} {d : Nat} (hC : OKC C l) (hS : SHP S) (hd : 3 ≤ d) {I0 : DI} {J0 : DJ} {i n a g : Nat} (hi : i < 21) (hn40 : n ≤ 40) (hn : I0 76 1 = nI n) {I : DI} {J : DJ} {b : Nat} {neg pre : Bool} {ws : List (Nat × Nat)} (hp : trm (I0 77) n a = trE (I0 77) n b neg pre ws) (hfr : FrA i I0 J0 I J) (h6 : I 76 6 = -1) (hb : b ≤ n) (h5 : I 76 5 = nI b) (hT : TmH (I0 77) i g neg pre ws I J) : V C l k_Qy_parseTerm (d, 0, 0) (PW S (TmQ I0 J0 i n a g)) 83 [(1, .ref (79 + 2 * i)), (0, .ref 76)] [] S I J (0, 0) := by
  refine v_aload_n 1 d_Qy_parseTerm_83 rfl rfl rfl ?_
  refine v_cVp (as := []) d_Qy_parseTerm_84 cs_Qy_41 (c_Qy_isFaulty hC hS (d := d - 1) (by omega)) (hS.o (by decide) rfl) (by decide) rfl rfl rfl (by decide) (by omega) rfl ?_
  refine v_if_ne (tgt := 94) d_Qy_parseTerm_87 (by decide) rfl (fun c1 => ?_) (fun c1 => ?_)
  · exact absurd (by rw [h6]; simp [bI]) c1
  · refine v_aload_n 1 d_Qy_parseTerm_90 rfl rfl rfl ?_
    refine v_cVu (as := []) d_Qy_parseTerm_91 cs_Qy_93 (c_Qy_endTerm hC hS (d := d - 1) (n := n) (a := b) hn40 hb (by rw [hfr.n]; exact hn) h5 (by omega)) (hS.o (by decide) rfl) (by decide) rfl rfl rfl (by decide) (by omega) rfl (fun I9 he => ?_)
    refine v_vret d_Qy_parseTerm_94 rfl ?_
    rcases he with ⟨q1, q2⟩ | ⟨q1, q2⟩
    · rw [hfr.c hi] at q1 q2
      refine ⟨rfl, rfl, by rw [q2]; exact hfr.at5 hi _, ?_⟩
      rw [hp, trE, if_pos q1]
      obtain ⟨t1, t2, t3, t4, t5⟩ := hT
      exact ⟨by rw [q2, u2_n (by decide)]; exact h6, by rw [q2, u2_s], (skb_le hb).2, by rw [q2, u2_o (by omega)]; exact t1, by rw [q2, u2_o (by omega)]; exact t2, by rw [q2, u2_o (by omega)]; exact t3, t4, t5⟩
    · rw [hfr.c hi] at q1 q2
      refine ⟨rfl, rfl, by rw [q2]; exact (hfr.at6 hi _).at5 hi _, ?_⟩
      rw [hp, trE, if_neg (by rw [q1]; decide)]
      exact ⟨by rw [q2, u2_n (by decide), u2_s], hb, _, (skb_le hb).2, by rw [q2, u2_s]⟩
set_option maxHeartbeats 4000000 in
set_option maxRecDepth 100000 in
theorem lpB_Qy_parseTerm {C : CT} {l : Launch} {S : ShT} {d : Nat} (hC : OKC C l) (hS : SHP S) (hd : 3 ≤ d) {I0 : DI} {J0 : DJ} {i n a g : Nat} (hi : i < 21) (hn40 : n ≤ 40) (hn : I0 76 1 = nI n) {I : DI} {J : DJ} {b : Nat} {neg : Bool} (htr : trm (I0 77) n a = trB (I0 77) n b neg) (hfr : FrA i I0 J0 I J) (h6 : I 76 6 = -1) (hb : b ≤ n) (h5 : I 76 5 = nI b) (h1 : I (79 + 2 * i) 1 = nI 0) (h2 : I (79 + 2 * i) 2 = nI g) (h3 : I (79 + 2 * i) 3 = bI neg) (h4 : J (79 + 2 * i) 4 = -1) : V C l k_Qy_parseTerm (d, 0, 0) (PW S (TmQ I0 J0 i n a g)) 51 [(1, .ref (79 + 2 * i)), (0, .ref 76)] [] S I J (0, 0) := by
  refine v_aload_n 1 d_Qy_parseTerm_51 rfl rfl rfl ?_
  refine v_cVp (as := []) d_Qy_parseTerm_52 cs_Qy_45 (c_Qy_next hC hS (d := d - 1) (n := n) (a := b) hn40 hb (by rw [hfr.n]; exact hn) h5 (by omega)) (hS.o (by decide) rfl) (by decide) rfl rfl rfl (by decide) (by omega) rfl ?_
  refine v_bipush (v := 34) d_Qy_parseTerm_55 (by decide) rfl ?_
  refine v_icmp_ne (tgt := 78) d_Qy_parseTerm_57 (by decide) rfl (fun c1 => ?_) (fun c1 => ?_)
  · have hqt : ¬ nx (I0 77) n b = 34 := by have h9 := c1; rw [hfr.c hi] at h9; exact h9
    refine v_aload_n 1 d_Qy_parseTerm_78 rfl rfl rfl ?_
    refine v_aload_n 0 d_Qy_parseTerm_79 rfl rfl rfl ?_
    refine v_cVw (as := [.ref (79 + 2 * i)]) d_Qy_parseTerm_80 cs_Qy_90 (c_Qy_parseWordOrBeginning hC hS (d := d - 1) (n := n) (a := b) hi hn40 hb (by rw [hfr.n]; exact hn) h5 h1 h6 (by omega)) (hS.o (by decide) rfl) (by decide) rfl rfl rfl (by decide) (by omega) rfl (fun I8 J8 hq => ?_)
    rw [WbQ, hfr.c hi] at hq
    obtain ⟨q0, hq⟩ := hq
    rcases hq with ⟨q1, q2, b9, q3, q4⟩ | ⟨q1, q2, q3, q4, q5, q6⟩
    · exact lpF_Qy_parseTerm hC hS hd hi hn40 hn (by rw [htr]; unfold trB; rw [if_neg hqt, if_pos q1]) (hfr.t q0) q2 (lcn_n 8 b hb) q3 q4
    · have hbe : b + lcn (I0 77) n b 8 + (if nx (I0 77) n (b + lcn (I0 77) n b 8) = 42 then 1 else 0) ≤ n := by
        by_cases h9 : nx (I0 77) n (b + lcn (I0 77) n b 8) = 42
        · rw [if_pos h9]; exact isQ_lt h9
        · rw [if_neg h9]; exact lcn_n 8 b hb
      refine lpE_Qy_parseTerm hC hS hd hi hn40 hn (neg := neg) (pre := decide (nx (I0 77) n (b + lcn (I0 77) n b 8) = 42)) (ws := [(b, lcn (I0 77) n b 8)]) (by rw [htr]; unfold trB; rw [if_neg hqt, if_neg (by rw [q1]; decide)]) (hfr.t q0) q2 hbe q3 ⟨by rw [q4]; rfl, by rw [q0.2.2.1 2 (by decide)]; exact h2, by rw [q0.2.2.1 3 (by decide)]; exact h3, fun j s l hj => ?_, ?_⟩
      · cases j with
        | zero => simp at hj; rw [← hj.1, ← hj.2]; exact q5
        | succ j => simp at hj
      · rw [q6, h4]; by_cases h9 : nx (I0 77) n (b + lcn (I0 77) n b 8) = 42 <;> simp [h9]
  · have hqt : nx (I0 77) n b = 34 := by have h9 := c1; rw [hfr.c hi] at h9; exact h9
    have hb1 : b + 1 ≤ n := isQ_lt hqt
    refine v_aload_n 1 d_Qy_parseTerm_60 rfl rfl rfl ?_
    refine v_dup d_Qy_parseTerm_61 rfl rfl ?_
    refine v_geti d_Qy_parseTerm_62 fl_Qy_26 (hS.o (by decide) rfl) rfl rfl ?_
    refine v_iconst (v := 1) d_Qy_parseTerm_65 (by decide) rfl ?_
    refine v_iadd d_Qy_parseTerm_66 rfl ?_
    refine v_nmi (fun z2 ez2 => ?_)
    have nz2 : z2 = nI (b + 1) := by rw [ez2, show I 76 5 = nI b from h5, show 1 = nI 1 from rfl]; exact nI_add _ _
    refine v_puti d_Qy_parseTerm_67 fl_Qy_26 (hS.o (by decide) rfl) rfl rfl rfl ?_
    generalize hI3 : u2 I 76 5 z2 = I3
    refine v_aload_n 1 d_Qy_parseTerm_70 rfl rfl rfl ?_
    refine v_aload_n 0 d_Qy_parseTerm_71 rfl rfl rfl ?_
    refine v_cVw (as := [.ref (79 + 2 * i)]) d_Qy_parseTerm_72 cs_Qy_86 (c_Qy_parsePhrase hC hS (d := d - 1) (n := n) (a := b + 1) hi hn40 hb1 (by rw [← hI3, u2_n (by decide), hfr.n]; exact hn) (by rw [← hI3, u2_s]; exact nz2) (by rw [← hI3, u2_o (by omega)]; exact h1) (by rw [← hI3, u2_n (by decide)]; exact h6) (by omega)) (hS.o (by decide) rfl) (by decide) rfl rfl rfl (by decide) (by omega) rfl (fun I8 J8 hq => ?_)
    refine v_goto (tgt := 83) d_Qy_parseTerm_75 (by decide) ?_
    have hfq : FrA i I0 J0 I3 J := by rw [← hI3]; exact hfr.at5 hi _
    unfold PhQ at hq
    rw [hfq.c hi] at hq
    cases hph : phr (I0 77) n (b + 1) with
    | inl f =>
      rw [hph] at hq
      obtain ⟨q1, q2, q3, b9, q4, q5⟩ := hq
      exact lpF_Qy_parseTerm hC hS hd hi hn40 hn (by rw [htr]; unfold trB; rw [if_pos hqt, hph]) (hfq.t q1) q2 q3 q4 q5
    | inr p =>
      rw [hph] at hq
      obtain ⟨q1, q2, q3, q4, q5, q6, q7⟩ := hq
      exact lpE_Qy_parseTerm hC hS hd hi hn40 hn (neg := neg) (pre := false) (ws := p.2) (by rw [htr]; unfold trB; rw [if_pos hqt, hph]) (hfq.t q1) q2 q4 q3 ⟨q5, by rw [q1.2.2.1 2 (by decide), ← hI3, u2_o (by omega)]; exact h2, by rw [q1.2.2.1 3 (by decide), ← hI3, u2_o (by omega)]; exact h3, fun j s l hj => by rw [q6 j s l hj, hfq.c hi], by rw [q7]; exact h4⟩
set_option maxHeartbeats 4000000 in
set_option maxRecDepth 100000 in
theorem c_Qy_parseTerm {C : CT} {l : Launch} {S : ShT} {I : DI} {J : DJ} {d : Nat} (hC : OKC C l) (hS : SHP S) {i n a g : Nat} (hi : i < 21) (hn40 : n ≤ 40) (han : a ≤ n) (hn : I 76 1 = nI n) (ha : I 76 5 = nI a) (hf : I 76 6 = -1) (ht : I 76 3 = nI i) (hg0 : I 76 4 = nI g) (hd : 3 ≤ d) : Sp C l k_Qy_parseTerm y_Qy_parseTerm (d, 0, 0) [.ref 76] S I J (PW S (TmQ I J i n a g)) := by
  refine Sp.of hC cd_Qy_parseTerm (Nat.le_of_ble_eq_true rfl) ?_
  show V C l k_Qy_parseTerm (d, 0, 0) _ 0 [(0, .ref 76)] [] S I J (0, 0)
  refine v_aload_n 0 d_Qy_parseTerm_0 rfl rfl rfl ?_
  refine v_getr (r := 78) d_Qy_parseTerm_1 fl_Qy_17 (hS.o (by decide) rfl) rfl (hS.r (by decide) rfl) rfl ?_
  refine v_aload_n 0 d_Qy_parseTerm_4 rfl rfl rfl ?_
  refine v_geti d_Qy_parseTerm_5 fl_Qy_32 (hS.o (by decide) rfl) rfl rfl ?_
  refine v_aald (j := i) (r := (79 + 2 * i)) d_Qy_parseTerm_8 (hS.a (t := 36) (n := 21) (by decide) rfl) (by decide) ht (by omega) (by decide) (hS.tmR (by omega)) rfl ?_
  refine v_astore_n (L' := [(1, .ref (79 + 2 * i)), (0, .ref 76)]) d_Qy_parseTerm_9 rfl (by decide) rfl rfl ?_
  refine v_aload_n 0 d_Qy_parseTerm_10 rfl rfl rfl ?_
  refine v_aload_n 1 d_Qy_parseTerm_11 rfl rfl rfl ?_
  refine v_geti d_Qy_parseTerm_12 fl_Qy_35 (hS.o (by decide) rfl) rfl rfl ?_
  refine v_cVw (as := [.int (I 76 4)]) d_Qy_parseTerm_15 cs_Qy_79 (c_Tm_begin hC hS (d := d - 1) hi (I 76 4) (by omega)) (hS.tm hi) (by decide) rfl rfl rfl (by decide) (by omega) rfl (fun I1 J1 hb => ?_)
  have h31 : I1 76 3 = nI i := by rw [hb.1, u2_o (by omega), u2_o (by omega), u2_o (by omega)]; exact ht
  refine v_aload_n 1 d_Qy_parseTerm_18 rfl rfl rfl ?_
  refine v_dup d_Qy_parseTerm_19 rfl rfl ?_
  refine v_geti d_Qy_parseTerm_20 fl_Qy_32 (hS.o (by decide) rfl) rfl rfl ?_
  refine v_iconst (v := 1) d_Qy_parseTerm_23 (by decide) rfl ?_
  refine v_iadd d_Qy_parseTerm_24 rfl ?_
  refine v_nmi (fun z1 ez1 => ?_)
  have nz1 : z1 = nI (i + 1) := by rw [ez1, show I1 76 3 = nI i from h31, show 1 = nI 1 from rfl]; exact nI_add _ _
  refine v_puti d_Qy_parseTerm_25 fl_Qy_32 (hS.o (by decide) rfl) rfl rfl rfl ?_
  generalize hI2 : u2 I1 76 3 z1 = I2
  obtain ⟨hb1, hb2⟩ := hb
  have hfr : FrA i I J I2 J1 := ⟨fun b b1 b2 => by rw [← hI2, u2_o b1, hb1, u2_o b2, u2_o b2, u2_o b2], fun j j1 j2 j3 => by rw [← hI2, u2_n (Or.inr j1), hb1, u2_o (by omega), u2_o (by omega), u2_o (by omega)], by rw [← hI2, u2_s]; exact nz1, fun b b1 b2 => by rw [hb2, u2_o b1]⟩
  have h6 : I2 76 6 = -1 := by rw [← hI2, u2_n (by decide), hb1, u2_o (by omega), u2_o (by omega), u2_o (by omega)]; exact hf
  have h5 : I2 76 5 = nI a := by rw [← hI2, u2_n (by decide), hb1, u2_o (by omega), u2_o (by omega), u2_o (by omega)]; exact ha
  have h1 : I2 (79 + 2 * i) 1 = nI 0 := by rw [← hI2, u2_o (by omega), hb1, u2_n (Or.inr (by decide)), u2_n (Or.inr (by decide)), u2_s]; rfl
  have h2 : I2 (79 + 2 * i) 2 = nI g := by rw [← hI2, u2_o (by omega), hb1, u2_n (Or.inr (by decide)), u2_s]; exact hg0
  have h3 : I2 (79 + 2 * i) 3 = bI false := by rw [← hI2, u2_o (by omega), hb1, u2_s]; rfl
  have h4 : J1 (79 + 2 * i) 4 = -1 := by rw [hb2, u2_s]
  refine v_aload_n 1 d_Qy_parseTerm_28 rfl rfl rfl ?_
  refine v_cVp (as := []) d_Qy_parseTerm_29 cs_Qy_45 (c_Qy_next hC hS (d := d - 1) (n := n) (a := a) hn40 han (by rw [hfr.n]; exact hn) h5 (by omega)) (hS.o (by decide) rfl) (by decide) rfl rfl rfl (by decide) (by omega) rfl ?_
  refine v_bipush (v := 45) d_Qy_parseTerm_32 (by decide) rfl ?_
  refine v_icmp_ne (tgt := 51) d_Qy_parseTerm_34 (by decide) rfl (fun c3 => ?_) (fun c3 => ?_)
  · have hng : ¬ nx (I 77) n a = 45 := by have h9 := c3; rw [hfr.c hi] at h9; exact h9
    exact lpB_Qy_parseTerm hC hS hd hi hn40 hn (b := a) (neg := false) (by unfold trm; rw [if_neg hng]) hfr h6 han h5 h1 h2 h3 h4
  · have hng : nx (I 77) n a = 45 := by have h9 := c3; rw [hfr.c hi] at h9; exact h9
    refine v_aload_n 0 d_Qy_parseTerm_37 rfl rfl rfl ?_
    refine v_cVu (as := []) d_Qy_parseTerm_38 cs_Qy_83 (c_Tm_forbid hC hS (d := d - 1) hi (by omega)) (hS.tm hi) (by decide) rfl rfl rfl (by decide) (by omega) rfl (fun I3 hg => ?_)
    have h53 : I3 76 5 = nI a := by rw [hg, u2_o (by omega)]; exact h5
    refine v_aload_n 1 d_Qy_parseTerm_41 rfl rfl rfl ?_
    refine v_dup d_Qy_parseTerm_42 rfl rfl ?_
    refine v_geti d_Qy_parseTerm_43 fl_Qy_26 (hS.o (by decide) rfl) rfl rfl ?_
    refine v_iconst (v := 1) d_Qy_parseTerm_46 (by decide) rfl ?_
    refine v_iadd d_Qy_parseTerm_47 rfl ?_
    refine v_nmi (fun z4 ez4 => ?_)
    have nz4 : z4 = nI (a + 1) := by rw [ez4, show I3 76 5 = nI a from h53, show 1 = nI 1 from rfl]; exact nI_add _ _
    refine v_puti d_Qy_parseTerm_48 fl_Qy_26 (hS.o (by decide) rfl) rfl rfl rfl ?_
    generalize hI5 : u2 I3 76 5 z4 = I5
    exact lpB_Qy_parseTerm hC hS hd hi hn40 hn (b := a + 1) (neg := true) (by unfold trm; rw [if_pos hng]) (by rw [← hI5]; exact FrA.at5 hi (by rw [hg]; exact ⟨fun b b1 b2 => by rw [u2_o b2]; exact hfr.1 b b1 b2, fun j j1 j2 j3 => by rw [u2_o (by omega)]; exact hfr.2.1 j j1 j2 j3, by rw [u2_o (by omega)]; exact hfr.2.2.1, hfr.2.2.2⟩) _) (by rw [← hI5, u2_n (by decide), hg, u2_o (by omega)]; exact h6) (isQ_lt hng) (by rw [← hI5, u2_s]; exact nz4) (by rw [← hI5, u2_o (by omega), hg, u2_n (Or.inr (by decide))]; exact h1) (by rw [← hI5, u2_o (by omega), hg, u2_n (Or.inr (by decide))]; exact h2) (by rw [← hI5, u2_o (by omega), hg, u2_s]; rfl) h4
end
section
/-! ===== TERMS AND ALTERNATIVES, as lists ===== -/
theorem skb_id {c : Nat → Int32} {n a : Nat} (h : ¬ nx c n a = 32) : skb c n a = a ∨ n ≤ a := by
  rcases Nat.lt_or_ge a n with h9 | h9
  · left
    unfold skb
    rw [show n - a = (n - a - 1) + 1 by omega, skF_s, if_neg (by rw [nx_lt h9] at h; exact h)]
  · right
    exact h9
theorem skb_n {c : Nat → Int32} {n a : Nat} (h : n ≤ a) : skb c n a = a := by
  unfold skb
  rw [show n - a = 0 by omega]
  rfl
theorem phr_le {c : Nat → Int32} {n a : Nat} (ha : a ≤ n) {p : Nat × List (Nat × Nat)} (h : phr c n a = .inr p) : a ≤ p.1 ∧ p.1 ≤ n := by
  have key : ∀ k b ws, b ≤ n → (phF c n k b ws).1 = none → b ≤ (phF c n k b ws).2.1 := by
    intro k
    induction k with
    | zero => intro b ws _ _; exact Nat.le_refl _
    | succ k ih =>
      intro b ws hb h1
      rw [phF_s] at h1 ⊢
      by_cases h2 : isLt (nx c n b) = true
      · rw [if_pos h2] at h1 ⊢
        by_cases h3 : badW c n b = true
        · rw [if_pos h3] at h1; cases h1
        · rw [if_neg h3] at h1 ⊢
          have h4 := skb_le (c := c) (lcn_n (c := c) 8 b hb)
          have := ih _ _ h4.2 h1
          omega
      · rw [if_neg h2]; exact Nat.le_refl _
  unfold phr at h
  cases hp : (phF c n 4 (skb c n a) []).1 with
  | some f => rw [hp] at h; cases h
  | none =>
    rw [hp] at h
    simp only at h
    have h1 := key 4 (skb c n a) [] (skb_le ha).2 hp
    have h2 := (skb_le (c := c) ha).1
    by_cases h3 : (phF c n 4 (skb c n a) []).2.2 = [] ∨ ¬ nx c n (phF c n 4 (skb c n a) []).2.1 = 34
    · rw [if_pos h3] at h; cases h
    · rw [if_neg h3] at h
      cases h
      have h4 : nx c n (phF c n 4 (skb c n a) []).2.1 = 34 := by
        by_cases h5 : nx c n (phF c n 4 (skb c n a) []).2.1 = 34
        · exact h5
        · exact absurd (Or.inr h5) h3
      exact ⟨by simp only; omega, isQ_lt h4⟩
def altE (c : Nat → Int32) (n a : Nat) : Bool := decide (nx c n a = 0) || decide (nx c n a = 124)
/-- a term that is right ends behind its beginning; more than that, unless an alternative ends there -/
theorem trm_le {c : Nat → Int32} {n a : Nat} (ha : a ≤ n) {p : Nat × Bool × Bool × List (Nat × Nat)} (h : trm c n a = .inr p) : a + 1 ≤ p.1 ∧ p.1 ≤ n ∧ (altE c n p.1 = true ∨ a + 2 ≤ p.1) := by
  have fin : ∀ b neg pre ws, a + 1 ≤ b → b ≤ n → trE c n b neg pre ws = .inr p → a + 1 ≤ p.1 ∧ p.1 ≤ n ∧ (altE c n p.1 = true ∨ a + 2 ≤ p.1) := by
    intro b neg pre ws h1 h2 h3
    unfold trE at h3
    by_cases h4 : okE c n b = true
    · rw [if_pos h4] at h3
      cases h3
      have h5 := skb_le (c := c) h2
      refine ⟨by simp only; omega, h5.2, ?_⟩
      simp only
      by_cases h6 : nx c n b = 32
      · right
        have hlt : b < n := by have := isQ_lt h6; omega
        have : skb c n b = skb c n (b + 1) := by
          unfold skb
          rw [show n - b = (n - (b + 1)) + 1 by omega, skF_s, if_pos (by rw [nx_lt hlt] at h6; exact h6)]
        have := (skb_le (c := c) (show b + 1 ≤ n by omega)).1
        omega
      · left
        have h7 : altE c n b = true := by
          unfold okE at h4
          unfold altE
          simpa [h6] using h4
        rcases skb_id h6 with h8 | h8
        · rw [h8]; exact h7
        · rw [skb_n h8]; exact h7
    · rw [if_neg h4] at h3; cases h3
  have body : ∀ b neg, a ≤ b → b ≤ n → trB c n b neg = .inr p → a + 1 ≤ p.1 ∧ p.1 ≤ n ∧ (altE c n p.1 = true ∨ a + 2 ≤ p.1) := by
    intro b neg h1 h2 h3
    unfold trB at h3
    by_cases h4 : nx c n b = 34
    · rw [if_pos h4] at h3
      have h5 := isQ_lt h4
      cases hp : phr c n (b + 1) with
      | inl f => rw [hp] at h3; cases h3
      | inr q =>
        rw [hp] at h3
        have h6 := phr_le h5 hp
        exact fin _ _ _ _ (by omega) h6.2 h3
    · rw [if_neg h4] at h3
      by_cases h5 : badW c n b = true
      · rw [if_pos h5] at h3; cases h3
      · rw [if_neg h5] at h3
        have h6 : ¬ lcn c n b 8 = 0 := by
          intro h9
          apply h5
          unfold badW
          rw [h9]
          rfl
        have h7 := lcn_n (c := c) 8 b h2
        refine fin _ _ _ _ ?_ ?_ h3
        · split <;> omega
        · by_cases h9 : nx c n (b + lcn c n b 8) = 42
          · rw [if_pos h9]; exact isQ_lt h9
          · rw [if_neg h9]; exact h7
  unfold trm at h
  by_cases h1 : nx c n a = 45
  · rw [if_pos h1] at h
    exact body _ _ (by omega) (isQ_lt h1) h
  · rw [if_neg h1] at h
    exact body _ _ (Nat.le_refl _) ha h
abbrev TT : Type := Nat × Bool × Bool × List (Nat × Nat)
def altF (c : Nat → Int32) (n g : Nat) : Nat → Nat → List TT → Nat ⊕ (Nat × List TT)
  | 0, a, ts => .inr (a, ts)
  | k + 1, a, ts => match trm c n a with
    | .inl f => .inl f
    | .inr p => if altE c n p.1 then .inr (p.1, ts ++ [(g, p.2)]) else altF c n g k p.1 (ts ++ [(g, p.2)])
def prsF (c : Nat → Int32) (n : Nat) : Nat → Nat → List TT → Nat → Nat ⊕ (List TT × Nat)
  | 0, _, ts, g => .inr (ts, g)
  | k + 1, a, ts, g => match altF c n g 41 (skb c n a) ts with
    | .inl f => .inl f
    | .inr q => if nx c n q.1 = 124 then prsF c n k (q.1 + 1) q.2 (g + 1) else .inr (q.2, g + 1)
/-- the frame of the parsing -/
def FrP (I : DI) (J : DJ) (I' : DI) (J' : DJ) : Prop := (∀ b, b ≠ 76 → (b < 79 ∨ 120 < b) → I' b = I b) ∧ (∀ j, j ≠ 3 → j ≠ 4 → j ≠ 5 → j ≠ 6 → I' 76 j = I 76 j) ∧ (∀ b, (b < 79 ∨ 120 < b) → J' b = J b)
theorem FrP.rf {I : DI} {J : DJ} : FrP I J I J := ⟨fun _ _ _ => rfl, fun _ _ _ _ _ => rfl, fun _ _ => rfl⟩
theorem FrP.trans {I I1 I2 : DI} {J J1 J2 : DJ} (h : FrP I J I1 J1) (g : FrP I1 J1 I2 J2) : FrP I J I2 J2 :=
  ⟨fun b b1 b2 => (g.1 b b1 b2).trans (h.1 b b1 b2), fun j j1 j2 j3 j4 => (g.2.1 j j1 j2 j3 j4).trans (h.2.1 j j1 j2 j3 j4), fun b b1 => (g.2.2 b b1).trans (h.2.2 b b1)⟩
theorem FrA.p {i : Nat} {I I' : DI} {J J' : DJ} (hi : i < 21) (h : FrA i I J I' J') : FrP I J I' J' := ⟨fun b b1 b2 => h.1 b b1 (by omega), fun j j1 _ j3 j4 => h.2.1 j j1 j3 j4, fun b b1 => h.2.2.2 b (by omega) (by omega)⟩
theorem FrP.q {I : DI} {J : DJ} (k : Nat) (x : Int32) (hk : k = 3 ∨ k = 4 ∨ k = 5 ∨ k = 6) : FrP I J (u2 I 76 k x) J := ⟨fun b b1 _ => by rw [u2_o b1], fun j j1 j2 j3 j4 => by rw [u2_n (Or.inr (by omega))], fun _ _ => rfl⟩
theorem FrP.c {I0 I : DI} {J0 J : DJ} (h : FrP I0 J0 I J) : I 77 = I0 77 := h.1 77 (by decide) (by decide)
theorem FrP.n {I0 I : DI} {J0 J : DJ} (h : FrP I0 J0 I J) : I 76 1 = I0 76 1 := h.2.1 1 (by decide) (by decide) (by decide) (by decide)
/-- these terms stand in the query's cells -/
def TsH (c : Nat → Int32) (ts : List TT) (I : DI) (J : DJ) : Prop := ∀ j t, ts[j]? = some t → TmH c j t.1 t.2.1 t.2.2.1 t.2.2.2 I J
theorem TmH.keep {c : Nat → Int32} {j g : Nat} {neg pre : Bool} {ws : List (Nat × Nat)} {I I' : DI} {J J' : DJ} (h : TmH c j g neg pre ws I J) (h1 : I' (79 + 2 * j) = I (79 + 2 * j)) (h2 : J' (79 + 2 * j) = J (79 + 2 * j)) (h3 : J' (80 + 2 * j) = J (80 + 2 * j)) : TmH c j g neg pre ws I' J' := by
  unfold TmH at h ⊢
  rw [h1, h2, h3]
  exact h
theorem TsH.add {c : Nat → Int32} {ts : List TT} {I I' : DI} {J J' : DJ} {g : Nat} {neg pre : Bool} {ws : List (Nat × Nat)} (hi : ts.length < 21) (h : TsH c ts I J) (hf : FrA ts.length I J I' J') (ht : TmH c ts.length g neg pre ws I' J') : TsH c (ts ++ [(g, neg, pre, ws)]) I' J' := by
  intro j t hj
  by_cases hl : j < ts.length
  · rw [List.getElem?_append_left hl] at hj
    exact (h j t hj).keep (hf.1 _ (by omega) (by omega)) (hf.2.2.2 _ (by omega) (by omega)) (hf.2.2.2 _ (by omega) (by omega))
  · rw [List.getElem?_append_right (by omega)] at hj
    have hz : j - ts.length < 1 := (List.getElem?_eq_some_iff.mp hj).1
    rw [show j - ts.length = 0 by omega] at hj
    cases hj
    rw [show j = ts.length by omega]
    exact ht
theorem TsH.q {c : Nat → Int32} {ts : List TT} {I : DI} {J : DJ} (k : Nat) (x : Int32) (h : TsH c ts I J) : TsH c ts (u2 I 76 k x) J := fun j t hj => (h j t hj).keep (u2_o (by omega)) rfl rfl
/-- the parsing's state: n characters, at a, these terms, g alternatives */ -/
def PaS (I0 : DI) (J0 : DJ) (a g : Nat) (ts : List TT) (I : DI) (J : DJ) : Prop := FrP I0 J0 I J ∧ I 76 3 = nI ts.length ∧ I 76 4 = nI g ∧ I 76 5 = nI a ∧ I 76 6 = -1 ∧ TsH (I0 77) ts I J
end
section
/-! ===== alternatives ===== -/
theorem PaS.ok {I0 I I' : DI} {J0 J J' : DJ} {a g n : Nat} {ts : List TT} {p : Nat × Bool × Bool × List (Nat × Nat)} (hl : ts.length < 21) (h : PaS I0 J0 a g ts I J) (hq : TmQ I J ts.length n a g I' J') (hp : trm (I0 77) n a = .inr p) : PaS I0 J0 p.1 g (ts ++ [(g, p.2)]) I' J' := by
  obtain ⟨f, f3, f4, f5, f6, ft⟩ := h
  obtain ⟨q, hq⟩ := hq
  rw [f.c, hp] at hq
  obtain ⟨q6, q5, qn, qt⟩ := hq
  exact ⟨f.trans (q.p hl), by rw [q.2.2.1]; simp, by rw [q.2.1 4 (by decide) (by decide) (by decide)]; exact f4, q5, q6, ft.add hl q qt⟩
theorem PaS.bad {I0 I I' : DI} {J0 J J' : DJ} {a g n f : Nat} {ts : List TT} (hl : ts.length < 21) (h : PaS I0 J0 a g ts I J) (hq : TmQ I J ts.length n a g I' J') (hp : trm (I0 77) n a = .inl f) : FrP I0 J0 I' J' ∧ I' 76 6 = nI f ∧ f ≤ n := by
  obtain ⟨f0, f3, f4, f5, f6, ft⟩ := h
  obtain ⟨q, hq⟩ := hq
  rw [f0.c, hp] at hq
  obtain ⟨q6, qn, _⟩ := hq
  exact ⟨f0.trans (q.p hl), q6, qn⟩
def AlQ (I0 : DI) (J0 : DJ) (n a g : Nat) (ts : List TT) (I : DI) (J : DJ) : Prop := FrP I0 J0 I J ∧ match altF (I0 77) n g 41 (skb (I0 77) n a) ts with
  | .inl f => I 76 6 = nI f ∧ f ≤ n
  | .inr q => PaS I0 J0 q.1 (g + 1) q.2 I J ∧ q.1 ≤ n ∧ 2 * q.2.length ≤ q.1 + 1
theorem altF_s {c : Nat → Int32} {n g k a : Nat} {ts : List TT} : altF c n g (k + 1) a ts = match trm c n a with
    | .inl f => .inl f
    | .inr p => if altE c n p.1 then .inr (p.1, ts ++ [(g, p.2)]) else altF c n g k p.1 (ts ++ [(g, p.2)]) := rfl
set_option maxHeartbeats 4000000 in
set_option maxRecDepth 100000 in
theorem lpF_Qy_parseAlternative {C : CT} {l : Launch} {S : ShT} {d : Nat} (hC : OKC C l) (hS : SHP S) (hd : 4 ≤ d) {I0 : DI} {J0 : DJ} {n a g : Nat} {ts0 : List TT} (hn40 : n ≤ 40) (hn : I0 76 1 = nI n) {I : DI} {J : DJ} {f : Nat} {x : Int32} (hp : altF (I0 77) n g 41 (skb (I0 77) n a) ts0 = .inl f) (hfr : FrP I0 J0 I J) (h6 : I 76 6 = nI f) (hf : f ≤ n) : V C l k_Qy_parseAlternative (d, 0, 0) (PW S (AlQ I0 J0 n a g ts0)) 10 [(1, .int x), (0, .ref 76)] [] S I J (0, 0) := by
  refine v_iload_n 0 d_Qy_parseAlternative_10 rfl rfl rfl ?_
  refine v_bipush (v := 40) d_Qy_parseAlternative_11 (by decide) rfl ?_
  refine v_icmp_ge (tgt := 40) d_Qy_parseAlternative_13 (by decide) rfl (fun c1 => ?_) (fun c1 => ?_)
  · refine v_aload_n 1 d_Qy_parseAlternative_40 rfl rfl rfl ?_
    refine v_dup d_Qy_parseAlternative_41 rfl rfl ?_
    refine v_geti d_Qy_parseAlternative_42 fl_Qy_35 (hS.o (by decide) rfl) rfl rfl ?_
    refine v_iconst (v := 1) d_Qy_parseAlternative_45 (by decide) rfl ?_
    refine v_iadd d_Qy_parseAlternative_46 rfl ?_
    refine v_nmi (fun z2 ez2 => ?_)
    refine v_puti d_Qy_parseAlternative_47 fl_Qy_35 (hS.o (by decide) rfl) rfl rfl rfl ?_
    generalize hI3 : u2 I 76 4 z2 = I3
    refine v_vret d_Qy_parseAlternative_50 rfl ?_
    refine ⟨rfl, rfl, by rw [← hI3]; exact hfr.trans (FrP.q 4 _ (by decide)), ?_⟩
    rw [hp]
    exact ⟨by rw [← hI3, u2_n (by decide)]; exact h6, hf⟩
  · refine v_aload_n 1 d_Qy_parseAlternative_16 rfl rfl rfl ?_
    refine v_cVp (as := []) d_Qy_parseAlternative_17 cs_Qy_41 (c_Qy_isFaulty hC hS (d := d - 1) (by omega)) (hS.o (by decide) rfl) (by decide) rfl rfl rfl (by decide) (by omega) rfl ?_
    refine v_if_ne (tgt := 40) d_Qy_parseAlternative_20 (by decide) rfl (fun c4 => ?_) (fun c4 => ?_)
    · refine v_aload_n 1 d_Qy_parseAlternative_40 rfl rfl rfl ?_
      refine v_dup d_Qy_parseAlternative_41 rfl rfl ?_
      refine v_geti d_Qy_parseAlternative_42 fl_Qy_35 (hS.o (by decide) rfl) rfl rfl ?_
      refine v_iconst (v := 1) d_Qy_parseAlternative_45 (by decide) rfl ?_
      refine v_iadd d_Qy_parseAlternative_46 rfl ?_
      refine v_nmi (fun z5 ez5 => ?_)
      refine v_puti d_Qy_parseAlternative_47 fl_Qy_35 (hS.o (by decide) rfl) rfl rfl rfl ?_
      generalize hI6 : u2 I 76 4 z5 = I6
      refine v_vret d_Qy_parseAlternative_50 rfl ?_
      refine ⟨rfl, rfl, by rw [← hI6]; exact hfr.trans (FrP.q 4 _ (by decide)), ?_⟩
      rw [hp]
      exact ⟨by rw [← hI6, u2_n (by decide)]; exact h6, hf⟩
    · exact absurd c4 (by rw [h6]; simp [bI, nI_m1 (show f < 100 by omega)])
theorem bI_f {b : Bool} (h : bI b = 0) : b = false := by cases b; rfl; exact absurd h (by decide)
theorem bI_t {b : Bool} (h : ¬ bI b = 0) : b = true := by cases b; exact absurd rfl h; rfl
set_option maxHeartbeats 4000000 in
set_option maxRecDepth 100000 in
theorem lp_Qy_parseAlternative {C : CT} {l : Launch} {S : ShT} {d : Nat} (hC : OKC C l) (hS : SHP S) (hd : 4 ≤ d) {I0 : DI} {J0 : DJ} {n a g : Nat} {ts0 : List TT} (hn40 : n ≤ 40) (hn : I0 76 1 = nI n) : ∀ (n0 t p : Nat) (ts : List TT) (I : DI) (J : DJ) (x : Int32), x = nI t → t ≤ 40 → 40 < t + n0 → p ≤ n → PaS I0 J0 p g ts I J → (altE (I0 77) n p = true ∨ 2 * ts.length ≤ p) → 2 * ts.length ≤ p + 1 → altF (I0 77) n g 41 (skb (I0 77) n a) ts0 = (if altE (I0 77) n p then .inr (p, ts) else altF (I0 77) n g (40 - t) p ts) → V C l k_Qy_parseAlternative (d, 0, 0) (PW S (AlQ I0 J0 n a g ts0)) 10 [(1, .int x), (0, .ref 76)] [] S I J (0, 0) := by
  intro n0
  induction n0 with
  | zero =>
    intro t p ts I J x h1 h2 h3
    omega
  | succ n0 ih =>
    intro t p ts I J x ex ht hf hpn hPS h2 h3 hr
    have hc : I 77 = I0 77 := hPS.1.c
    have hn1 : I 76 1 = nI n := by rw [hPS.1.n]; exact hn
    have h4 := hPS.2.2.1
    refine v_iload_n 0 d_Qy_parseAlternative_10 rfl rfl rfl ?_
    refine v_bipush (v := 40) d_Qy_parseAlternative_11 (by decide) rfl ?_
    refine v_icmp_ge (tgt := 40) d_Qy_parseAlternative_13 (by decide) rfl (fun c1 => ?_) (fun c1 => ?_)
    · refine v_aload_n 1 d_Qy_parseAlternative_40 rfl rfl rfl ?_
      refine v_dup d_Qy_parseAlternative_41 rfl rfl ?_
      refine v_geti d_Qy_parseAlternative_42 fl_Qy_35 (hS.o (by decide) rfl) rfl rfl ?_
      refine v_iconst (v := 1) d_Qy_parseAlternative_45 (by decide) rfl ?_
      refine v_iadd d_Qy_parseAlternative_46 rfl ?_
      refine v_nmi (fun z2 ez2 => ?_)
      have nz2 : z2 = nI (g + 1) := by rw [ez2, show I 76 4 = nI g from h4, show 1 = nI 1 from rfl]; exact nI_add _ _
      refine v_puti d_Qy_parseAlternative_47 fl_Qy_35 (hS.o (by decide) rfl) rfl rfl rfl ?_
      generalize hI3 : u2 I 76 4 z2 = I3
      refine v_vret d_Qy_parseAlternative_50 rfl ?_
      have ht40 : t = 40 := by rcases Nat.lt_or_ge t 40 with h9 | h9; exact absurd c1 (by rw [ex]; exact nI_ge (b := 40) h9 (by decide)); omega
      have hr2 : altF (I0 77) n g 41 (skb (I0 77) n a) ts0 = .inr (p, ts) := by rw [hr, ht40]; by_cases h9 : altE (I0 77) n p = true; rw [if_pos h9]; rw [if_neg h9]; rfl
      refine ⟨rfl, rfl, by rw [← hI3]; exact hPS.1.trans (FrP.q 4 _ (by decide)), ?_⟩
      rw [hr2]
      obtain ⟨g1, g2, g3, g4, g5, g6⟩ := hPS
      exact ⟨⟨by rw [← hI3]; exact g1.trans (FrP.q 4 _ (by decide)), by rw [← hI3, u2_n (by decide)]; exact g2, by rw [← hI3, u2_s]; exact nz2, by rw [← hI3, u2_n (by decide)]; exact g4, by rw [← hI3, u2_n (by decide)]; exact g5, by rw [← hI3]; exact g6.q 4 _⟩, hpn, h3⟩
    · refine v_aload_n 1 d_Qy_parseAlternative_16 rfl rfl rfl ?_
      refine v_cVp (as := []) d_Qy_parseAlternative_17 cs_Qy_41 (c_Qy_isFaulty hC hS (d := d - 1) (by omega)) (hS.o (by decide) rfl) (by decide) rfl rfl rfl (by decide) (by omega) rfl ?_
      refine v_if_ne (tgt := 40) d_Qy_parseAlternative_20 (by decide) rfl (fun c4 => ?_) (fun c4 => ?_)
      · exact absurd (by rw [hPS.2.2.2.2.1]; simp [bI]) c4
      · refine v_aload_n 1 d_Qy_parseAlternative_23 rfl rfl rfl ?_
        refine v_cVp (as := []) d_Qy_parseAlternative_24 cs_Qy_76 (c_Qy_atAlternativeEnd hC hS (d := d - 1) (n := n) (a := p) hn40 hpn hn1 hPS.2.2.2.1 (by omega)) (hS.o (by decide) rfl) (by decide) rfl rfl rfl (by decide) (by omega) rfl ?_
        refine v_if_ne (tgt := 40) d_Qy_parseAlternative_27 (by decide) rfl (fun c5 => ?_) (fun c5 => ?_)
        · refine v_aload_n 1 d_Qy_parseAlternative_40 rfl rfl rfl ?_
          refine v_dup d_Qy_parseAlternative_41 rfl rfl ?_
          refine v_geti d_Qy_parseAlternative_42 fl_Qy_35 (hS.o (by decide) rfl) rfl rfl ?_
          refine v_iconst (v := 1) d_Qy_parseAlternative_45 (by decide) rfl ?_
          refine v_iadd d_Qy_parseAlternative_46 rfl ?_
          refine v_nmi (fun z6 ez6 => ?_)
          have nz6 : z6 = nI (g + 1) := by rw [ez6, show I 76 4 = nI g from h4, show 1 = nI 1 from rfl]; exact nI_add _ _
          refine v_puti d_Qy_parseAlternative_47 fl_Qy_35 (hS.o (by decide) rfl) rfl rfl rfl ?_
          generalize hI7 : u2 I 76 4 z6 = I7
          refine v_vret d_Qy_parseAlternative_50 rfl ?_
          have hA : altE (I0 77) n p = true := by have h9 := c5; rw [hc] at h9; exact bI_t h9
          have hr2 : altF (I0 77) n g 41 (skb (I0 77) n a) ts0 = .inr (p, ts) := by rw [hr, hA]; rfl
          refine ⟨rfl, rfl, by rw [← hI7]; exact hPS.1.trans (FrP.q 4 _ (by decide)), ?_⟩
          rw [hr2]
          obtain ⟨g1, g2, g3, g4, g5, g6⟩ := hPS
          exact ⟨⟨by rw [← hI7]; exact g1.trans (FrP.q 4 _ (by decide)), by rw [← hI7, u2_n (by decide)]; exact g2, by rw [← hI7, u2_s]; exact nz6, by rw [← hI7, u2_n (by decide)]; exact g4, by rw [← hI7, u2_n (by decide)]; exact g5, by rw [← hI7]; exact g6.q 4 _⟩, hpn, h3⟩
        · have hnA : altE (I0 77) n p = false := by have h9 := c5; rw [hc] at h9; exact bI_f h9
          have h2p : 2 * ts.length ≤ p := by rcases h2 with h9 | h9; rw [hnA] at h9; cases h9; exact h9
          have hl21 : ts.length < 21 := by omega
          have ht40 : t < 40 := by rcases Nat.lt_or_ge t 40 with h9 | h9; exact h9; exact absurd (by rw [ex]; exact nI_le (a := 40) h9 (by omega)) c1
          refine v_aload_n 1 d_Qy_parseAlternative_30 rfl rfl rfl ?_
          refine v_cVw (as := []) d_Qy_parseAlternative_31 cs_Qy_73 (c_Qy_parseTerm hC hS (d := d - 1) (i := ts.length) (n := n) (a := p) (g := g) hl21 hn40 hpn hn1 hPS.2.2.2.1 hPS.2.2.2.2.1 hPS.2.1 hPS.2.2.1 (by omega)) (hS.o (by decide) rfl) (by decide) rfl rfl rfl (by decide) (by omega) rfl (fun I1 J1 hq => ?_)
          obtain ⟨x8, ex8⟩ : ∃ y : Int32, y = x + 1 := ⟨_, rfl⟩
          have nx8 : x8 = nI (t + 1) := by rw [ex8, show x = nI t from ex]; exact nI_1 _
          refine v_iinc (n := 0) (v := x8) (L' := [(1, .int x8), (0, .ref 76)]) d_Qy_parseAlternative_34 rfl (by rw [ex8]; rfl) (by decide) rfl rfl ?_
          refine v_goto (tgt := 10) d_Qy_parseAlternative_37 (by decide) ?_
          rw [hnA, show 40 - t = (40 - (t + 1)) + 1 by omega, if_neg (by decide), altF_s (k := 40 - (t + 1))] at hr
          cases htr : trm (I0 77) n p with
          | inl f =>
            obtain ⟨q1, q2, q3⟩ := hPS.bad hl21 hq htr
            rw [htr] at hr
            exact lpF_Qy_parseAlternative hC hS hd hn40 hn hr q1 q2 q3
          | inr q =>
            have q1 := hPS.ok hl21 hq htr
            rw [htr] at hr
            obtain ⟨l1, l2, l3⟩ := trm_le hpn htr
            exact ih (t + 1) q.1 _ _ _ _ nx8 (by omega) (by omega) l2 q1 (by rcases l3 with h9 | h9; exact Or.inl h9; exact Or.inr (by simp; omega)) (by simp; omega) hr
set_option maxHeartbeats 4000000 in
set_option maxRecDepth 100000 in
theorem c_Qy_parseAlternative {C : CT} {l : Launch} {S : ShT} {I : DI} {J : DJ} {d : Nat} (hC : OKC C l) (hS : SHP S) {n a g : Nat} {ts : List TT} (hn40 : n ≤ 40) (han : a ≤ n) (h2 : 2 * ts.length ≤ a) (hn : I 76 1 = nI n) (ha : I 76 5 = nI a) (hf : I 76 6 = -1) (ht : I 76 3 = nI ts.length) (hg0 : I 76 4 = nI g) (hts : TsH (I 77) ts I J) (hd : 4 ≤ d) : Sp C l k_Qy_parseAlternative y_Qy_parseAlternative (d, 0, 0) [.ref 76] S I J (PW S (AlQ I J n a g ts)) := by
  refine Sp.of hC cd_Qy_parseAlternative (Nat.le_of_ble_eq_true rfl) ?_
  show V C l k_Qy_parseAlternative (d, 0, 0) _ 0 [(0, .ref 76)] [] S I J (0, 0)
  refine v_aload_n 0 d_Qy_parseAlternative_0 rfl rfl rfl ?_
  refine v_cVu (as := []) d_Qy_parseAlternative_1 cs_Qy_70 (c_Qy_skipBlanks hC hS (d := d - 1) (n := n) (a := a) hn40 han hn ha) (hS.o (by decide) rfl) (by decide) rfl rfl rfl (by decide) (by omega) rfl (fun I2 hk => ?_)
  have hpn : skb (I 77) n a ≤ n := (skb_le han).2
  have hap : a ≤ skb (I 77) n a := (skb_le han).1
  have hl21 : ts.length < 21 := by omega
  have hPS : PaS I J (skb (I 77) n a) g ts I2 J := by subst hk; exact ⟨FrP.q 5 _ (by decide), by rw [u2_n (by decide)]; exact ht, by rw [u2_n (by decide)]; exact hg0, u2_s, by rw [u2_n (by decide)]; exact hf, hts.q 5 _⟩
  have hn1 : I2 76 1 = nI n := by rw [hPS.1.n]; exact hn
  refine v_aload_n 0 d_Qy_parseAlternative_4 rfl rfl rfl ?_
  refine v_cVw (as := []) d_Qy_parseAlternative_5 cs_Qy_73 (c_Qy_parseTerm hC hS (d := d - 1) (i := ts.length) (n := n) (a := skb (I 77) n a) (g := g) hl21 hn40 hpn hn1 hPS.2.2.2.1 hPS.2.2.2.2.1 hPS.2.1 hPS.2.2.1 (by omega)) (hS.o (by decide) rfl) (by decide) rfl rfl rfl (by decide) (by omega) rfl (fun I1 J1 hq => ?_)
  refine v_iconst (v := 0) d_Qy_parseAlternative_8 (by decide) rfl ?_
  refine v_istore_n (L' := [(1, .int 0), (0, .ref 76)]) d_Qy_parseAlternative_9 rfl (by decide) rfl rfl ?_
  have hr : altF (I 77) n g 41 (skb (I 77) n a) ts = _ := altF_s (k := 40)
  cases htr : trm (I 77) n (skb (I 77) n a) with
  | inl f =>
    obtain ⟨q1, q2, q3⟩ := hPS.bad hl21 hq htr
    rw [htr] at hr
    exact lpF_Qy_parseAlternative hC hS hd hn40 hn hr q1 q2 q3
  | inr q =>
    have q1 := hPS.ok hl21 hq htr
    rw [htr] at hr
    obtain ⟨l1, l2, l3⟩ := trm_le hpn htr
    exact lp_Qy_parseAlternative hC hS hd hn40 hn 41 0 q.1 _ _ _ _ rfl (by omega) (by omega) l2 q1 (by rcases l3 with h9 | h9; exact Or.inl h9; exact Or.inr (by simp; omega)) (by simp; omega) hr
end
section
theorem AlQ.base {I0 I I1 : DI} {J0 J J1 : DJ} {n a g : Nat} {ts : List TT} (h : FrP I0 J0 I J) (q : AlQ I J n a g ts I1 J1) : AlQ I0 J0 n a g ts I1 J1 := by
  obtain ⟨q1, q2⟩ := q
  rw [h.c] at q2
  refine ⟨h.trans q1, ?_⟩
  cases hr : altF (I0 77) n g 41 (skb (I0 77) n a) ts with
  | inl f => rw [hr] at q2; exact q2
  | inr p =>
    rw [hr] at q2
    obtain ⟨⟨f1, f2, f3, f4, f5, f6⟩, g2, g3⟩ := q2
    rw [h.c] at f6
    exact ⟨⟨h.trans f1, f2, f3, f4, f5, f6⟩, g2, g3⟩
theorem prsF_s {c : Nat → Int32} {n k a g : Nat} {ts : List TT} : prsF c n (k + 1) a ts g = match altF c n g 41 (skb c n a) ts with
    | .inl f => .inl f
    | .inr q => if nx c n q.1 = 124 then prsF c n k (q.1 + 1) q.2 (g + 1) else .inr (q.2, g + 1) := rfl
def PsQ (I0 : DI) (J0 : DJ) (n : Nat) (x : Int32) (I : DI) (J : DJ) : Prop := FrP I0 J0 I J ∧ match prsF (I0 77) n 41 0 [] 0 with
  | .inl f => x = nI f ∧ f ≤ n
  | .inr q => x = -1 ∧ I 76 3 = nI q.1.length ∧ I 76 4 = nI q.2 ∧ TsH (I0 77) q.1 I J ∧ 2 * q.1.length ≤ n + 1
set_option maxHeartbeats 4000000 in
set_option maxRecDepth 100000 in
theorem lpF_Qy_parse {C : CT} {l : Launch} {S : ShT} {d : Nat} (hC : OKC C l) (hS : SHP S) (hd : 5 ≤ d) {I0 : DI} {J0 : DJ} {n : Nat} (hn40 : n ≤ 40) (hn : I0 76 1 = nI n) {I : DI} {J : DJ} {f : Nat} {x : Int32} (hp : prsF (I0 77) n 41 0 [] 0 = .inl f) (hfr : FrP I0 J0 I J) (h6 : I 76 6 = nI f) (hf : f ≤ n) : V C l k_Qy_parse (d, 0, 0) (PJ S (PsQ I0 J0 n)) 26 [(1, .int x), (0, .ref 76)] [] S I J (0, 0) := by
  refine v_iload_n 0 d_Qy_parse_26 rfl rfl rfl ?_
  refine v_bipush (v := 40) d_Qy_parse_27 (by decide) rfl ?_
  refine v_icmp_ge (tgt := 68) d_Qy_parse_29 (by decide) rfl (fun c1 => ?_) (fun c1 => ?_)
  · refine v_aload_n 1 d_Qy_parse_68 rfl rfl rfl ?_
    refine v_geti d_Qy_parse_69 fl_Qy_29 (hS.o (by decide) rfl) rfl rfl ?_
    refine v_iret d_Qy_parse_72 rfl ?_
    refine ⟨rfl, _, rfl, hfr, ?_⟩
    rw [hp]
    exact ⟨h6, hf⟩
  · refine v_aload_n 1 d_Qy_parse_32 rfl rfl rfl ?_
    refine v_cVp (as := []) d_Qy_parse_33 cs_Qy_41 (c_Qy_isFaulty hC hS (d := d - 1) (by omega)) (hS.o (by decide) rfl) (by decide) rfl rfl rfl (by decide) (by omega) rfl ?_
    refine v_if_ne (tgt := 68) d_Qy_parse_36 (by decide) rfl (fun c2 => ?_) (fun c2 => ?_)
    · refine v_aload_n 1 d_Qy_parse_68 rfl rfl rfl ?_
      refine v_geti d_Qy_parse_69 fl_Qy_29 (hS.o (by decide) rfl) rfl rfl ?_
      refine v_iret d_Qy_parse_72 rfl ?_
      refine ⟨rfl, _, rfl, hfr, ?_⟩
      rw [hp]
      exact ⟨h6, hf⟩
    · exact absurd c2 (by rw [h6]; simp [bI, nI_m1 (show f < 100 by omega)])
set_option maxHeartbeats 4000000 in
set_option maxRecDepth 100000 in
theorem lp_Qy_parse {C : CT} {l : Launch} {S : ShT} {d : Nat} (hC : OKC C l) (hS : SHP S) (hd : 5 ≤ d) {I0 : DI} {J0 : DJ} {n : Nat} (hn40 : n ≤ 40) (hn : I0 76 1 = nI n) : ∀ (n0 t p : Nat) (ts : List TT) (g : Nat) (I : DI) (J : DJ) (x : Int32), x = nI t → t ≤ 40 → 40 < t + n0 → p ≤ n → PaS I0 J0 p g ts I J → 2 * ts.length ≤ p + 1 → prsF (I0 77) n 41 0 [] 0 = (if nx (I0 77) n p = 124 then prsF (I0 77) n (40 - t) (p + 1) ts g else .inr (ts, g)) → V C l k_Qy_parse (d, 0, 0) (PJ S (PsQ I0 J0 n)) 26 [(1, .int x), (0, .ref 76)] [] S I J (0, 0) := by
  intro n0
  induction n0 with
  | zero =>
    intro t p ts g I J x h1 h2 h3
    omega
  | succ n0 ih =>
    intro t p ts g I J x ex ht hf hpn hPS h3 hr
    have hc : I 77 = I0 77 := hPS.1.c
    have hn1 : I 76 1 = nI n := by rw [hPS.1.n]; exact hn
    have h5 := hPS.2.2.2.1
    refine v_iload_n 0 d_Qy_parse_26 rfl rfl rfl ?_
    refine v_bipush (v := 40) d_Qy_parse_27 (by decide) rfl ?_
    refine v_icmp_ge (tgt := 68) d_Qy_parse_29 (by decide) rfl (fun c1 => ?_) (fun c1 => ?_)
    · refine v_aload_n 1 d_Qy_parse_68 rfl rfl rfl ?_
      refine v_geti d_Qy_parse_69 fl_Qy_29 (hS.o (by decide) rfl) rfl rfl ?_
      refine v_iret d_Qy_parse_72 rfl ?_
      have ht40 : t = 40 := by rcases Nat.lt_or_ge t 40 with h9 | h9; exact absurd c1 (by rw [ex]; exact nI_ge (b := 40) h9 (by decide)); omega
      have hr2 : prsF (I0 77) n 41 0 [] 0 = .inr (ts, g) := by rw [hr, ht40]; by_cases h9 : nx (I0 77) n p = 124; rw [if_pos h9]; rfl; rw [if_neg h9]
      refine ⟨rfl, _, rfl, hPS.1, ?_⟩
      rw [hr2]
      exact ⟨hPS.2.2.2.2.1, hPS.2.1, hPS.2.2.1, hPS.2.2.2.2.2, by simp only; omega⟩
    · refine v_aload_n 1 d_Qy_parse_32 rfl rfl rfl ?_
      refine v_cVp (as := []) d_Qy_parse_33 cs_Qy_41 (c_Qy_isFaulty hC hS (d := d - 1) (by omega)) (hS.o (by decide) rfl) (by decide) rfl rfl rfl (by decide) (by omega) rfl ?_
      refine v_if_ne (tgt := 68) d_Qy_parse_36 (by decide) rfl (fun c2 => ?_) (fun c2 => ?_)
      · exact absurd (by rw [hPS.2.2.2.2.1]; simp [bI]) c2
      · refine v_aload_n 1 d_Qy_parse_39 rfl rfl rfl ?_
        refine v_cVp (as := []) d_Qy_parse_40 cs_Qy_45 (c_Qy_next hC hS (d := d - 1) (n := n) (a := p) hn40 hpn hn1 hPS.2.2.2.1 (by omega)) (hS.o (by decide) rfl) (by decide) rfl rfl rfl (by decide) (by omega) rfl ?_
        refine v_bipush (v := 124) d_Qy_parse_43 (by decide) rfl ?_
        refine v_icmp_ne (tgt := 68) d_Qy_parse_45 (by decide) rfl (fun c3 => ?_) (fun c3 => ?_)
        · refine v_aload_n 1 d_Qy_parse_68 rfl rfl rfl ?_
          refine v_geti d_Qy_parse_69 fl_Qy_29 (hS.o (by decide) rfl) rfl rfl ?_
          refine v_iret d_Qy_parse_72 rfl ?_
          have hA : ¬ nx (I0 77) n p = 124 := by have h9 := c3; rw [hc] at h9; exact h9
          have hr2 : prsF (I0 77) n 41 0 [] 0 = .inr (ts, g) := by rw [hr, if_neg hA]
          refine ⟨rfl, _, rfl, hPS.1, ?_⟩
          rw [hr2]
          exact ⟨hPS.2.2.2.2.1, hPS.2.1, hPS.2.2.1, hPS.2.2.2.2.2, by simp only; omega⟩
        · have hb : nx (I0 77) n p = 124 := by have h9 := c3; rw [hc] at h9; exact h9
          have ht40 : t < 40 := by rcases Nat.lt_or_ge t 40 with h9 | h9; exact h9; exact absurd (by rw [ex]; exact nI_le (a := 40) h9 (by omega)) c1
          refine v_aload_n 1 d_Qy_parse_48 rfl rfl rfl ?_
          refine v_dup d_Qy_parse_49 rfl rfl ?_
          refine v_geti d_Qy_parse_50 fl_Qy_26 (hS.o (by decide) rfl) rfl rfl ?_
          refine v_iconst (v := 1) d_Qy_parse_53 (by decide) rfl ?_
          refine v_iadd d_Qy_parse_54 rfl ?_
          refine v_nmi (fun z4 ez4 => ?_)
          have nz4 : z4 = nI (p + 1) := by rw [ez4, show I 76 5 = nI p from h5, show 1 = nI 1 from rfl]; exact nI_add _ _
          refine v_puti d_Qy_parse_55 fl_Qy_26 (hS.o (by decide) rfl) rfl rfl rfl ?_
          generalize hI5 : u2 I 76 5 z4 = I5
          have hP2 : PaS I0 J0 (p + 1) g ts I5 J := by obtain ⟨g1, g2, g3, g4, g5, g6⟩ := hPS; exact ⟨by rw [← hI5]; exact g1.trans (FrP.q 5 _ (by decide)), by rw [← hI5, u2_n (by decide)]; exact g2, by rw [← hI5, u2_n (by decide)]; exact g3, by rw [← hI5, u2_s]; exact nz4, by rw [← hI5, u2_n (by decide)]; exact g5, by rw [← hI5]; exact g6.q 5 _⟩
          refine v_aload_n 1 d_Qy_parse_58 rfl rfl rfl ?_
          refine v_cVw (as := []) d_Qy_parse_59 cs_Qy_38 (c_Qy_parseAlternative hC hS (d := d - 1) (n := n) (a := p + 1) (g := g) (ts := ts) hn40 (isQ_lt hb) h3 (by rw [hP2.1.n]; exact hn) hP2.2.2.2.1 hP2.2.2.2.2.1 hP2.2.1 hP2.2.2.1 (by rw [hP2.1.c]; exact hP2.2.2.2.2.2) (by omega)) (hS.o (by decide) rfl) (by decide) rfl rfl rfl (by decide) (by omega) rfl (fun I1 J1 hq => ?_)
          obtain ⟨x6, ex6⟩ : ∃ y : Int32, y = x + 1 := ⟨_, rfl⟩
          have nx6 : x6 = nI (t + 1) := by rw [ex6, show x = nI t from ex]; exact nI_1 _
          refine v_iinc (n := 0) (v := x6) (L' := [(1, .int x6), (0, .ref 76)]) d_Qy_parse_62 rfl (by rw [ex6]; rfl) (by decide) rfl rfl ?_
          refine v_goto (tgt := 26) d_Qy_parse_65 (by decide) ?_
          have hq2 := AlQ.base hP2.1 hq
          rw [if_pos hb, show 40 - t = (40 - (t + 1)) + 1 by omega, prsF_s (k := 40 - (t + 1))] at hr
          obtain ⟨k1, k2⟩ := hq2
          cases htr : altF (I0 77) n g 41 (skb (I0 77) n (p + 1)) ts with
          | inl f =>
            rw [htr] at k2
            rw [htr] at hr
            exact lpF_Qy_parse hC hS hd hn40 hn hr k1 k2.1 k2.2
          | inr q =>
            rw [htr] at k2
            rw [htr] at hr
            exact ih (t + 1) q.1 q.2 (g + 1) _ _ _ nx6 (by omega) (by omega) k2.2.1 k2.1 k2.2.2 hr
set_option maxHeartbeats 4000000 in
set_option maxRecDepth 100000 in
theorem c_Qy_parse {C : CT} {l : Launch} {S : ShT} {I : DI} {J : DJ} {d : Nat} (hC : OKC C l) (hS : SHP S) {n : Nat} (hn40 : n ≤ 40) (hn : I 76 1 = nI n) (hd : 5 ≤ d) : Sp C l k_Qy_parse y_Qy_parse (d, 0, 0) [.ref 76] S I J (PJ S (PsQ I J n)) := by
  refine Sp.of hC cd_Qy_parse (Nat.le_of_ble_eq_true rfl) ?_
  show V C l k_Qy_parse (d, 0, 0) _ 0 [(0, .ref 76)] [] S I J (0, 0)
  refine v_aload_n 0 d_Qy_parse_0 rfl rfl rfl ?_
  refine v_iconst (v := 0) d_Qy_parse_1 (by decide) rfl ?_
  refine v_puti d_Qy_parse_2 fl_Qy_26 (hS.o (by decide) rfl) rfl rfl rfl ?_
  generalize hI1 : u2 I 76 5 0 = I1
  refine v_aload_n 0 d_Qy_parse_5 rfl rfl rfl ?_
  refine v_iconst (v := (-1)) d_Qy_parse_6 (by decide) rfl ?_
  refine v_puti d_Qy_parse_7 fl_Qy_29 (hS.o (by decide) rfl) rfl rfl rfl ?_
  generalize hI2 : u2 I1 76 6 (-1) = I2
  refine v_aload_n 0 d_Qy_parse_10 rfl rfl rfl ?_
  refine v_iconst (v := 0) d_Qy_parse_11 (by decide) rfl ?_
  refine v_puti d_Qy_parse_12 fl_Qy_32 (hS.o (by decide) rfl) rfl rfl rfl ?_
  generalize hI3 : u2 I2 76 3 0 = I3
  refine v_aload_n 0 d_Qy_parse_15 rfl rfl rfl ?_
  refine v_iconst (v := 0) d_Qy_parse_16 (by decide) rfl ?_
  refine v_puti d_Qy_parse_17 fl_Qy_35 (hS.o (by decide) rfl) rfl rfl rfl ?_
  generalize hI4 : u2 I3 76 4 0 = I4
  have hP2 : PaS I J 0 0 [] I4 J := by subst hI1 hI2 hI3 hI4; exact ⟨((FrP.q 5 _ (by decide)).trans (FrP.q 6 _ (by decide))).trans ((FrP.q 3 _ (by decide)).trans (FrP.q 4 _ (by decide))), by rw [u2_n (by decide), u2_s]; rfl, by rw [u2_s]; rfl, by rw [u2_n (by decide), u2_n (by decide), u2_n (by decide), u2_s]; rfl, by rw [u2_n (by decide), u2_n (by decide), u2_s], fun j t hj => by simp at hj⟩
  refine v_aload_n 0 d_Qy_parse_20 rfl rfl rfl ?_
  refine v_cVw (as := []) d_Qy_parse_21 cs_Qy_38 (c_Qy_parseAlternative hC hS (d := d - 1) (n := n) (a := 0) (g := 0) (ts := []) hn40 (by omega) (by simp) (by rw [hP2.1.n]; exact hn) hP2.2.2.2.1 hP2.2.2.2.2.1 hP2.2.1 hP2.2.2.1 (by rw [hP2.1.c]; exact hP2.2.2.2.2.2) (by omega)) (hS.o (by decide) rfl) (by decide) rfl rfl rfl (by decide) (by omega) rfl (fun I9 J9 hq => ?_)
  refine v_iconst (v := 0) d_Qy_parse_24 (by decide) rfl ?_
  refine v_istore_n (L' := [(1, .int 0), (0, .ref 76)]) d_Qy_parse_25 rfl (by decide) rfl rfl ?_
  have hq2 := AlQ.base hP2.1 hq
  have hr : prsF (I 77) n 41 0 [] 0 = _ := prsF_s (k := 40)
  obtain ⟨k1, k2⟩ := hq2
  cases htr : altF (I 77) n 0 41 (skb (I 77) n 0) [] with
  | inl f =>
    rw [htr] at k2
    rw [htr] at hr
    exact lpF_Qy_parse hC hS hd hn40 hn hr k1 k2.1 k2.2
  | inr q =>
    rw [htr] at k2
    rw [htr] at hr
    exact lp_Qy_parse hC hS hd hn40 hn 41 0 q.1 q.2 (0 + 1) _ _ _ rfl (by omega) (by omega) k2.2.1 k2.1 k2.2.2 hr
end
section
/-! ===== what an alternative adds, and all of them ===== -/
def paF (of : Nat → Bool) (w : Nat → Int32) (un : Nat → Bool) : Nat → Nat → Int32 → Int32
  | 0, _, z => z
  | k + 1, i, z => if of i then (if decide (0 < w i) = un i then -1 else paF of w un k (i + 1) (z + w i)) else paF of w un k (i + 1) z
theorem paF_s (of : Nat → Bool) (w : Nat → Int32) (un : Nat → Bool) (k i : Nat) (z : Int32) : paF of w un (k + 1) i z = if of i then (if decide (0 < w i) = un i then -1 else paF of w un k (i + 1) (z + w i)) else paF of w un k (i + 1) z := rfl
def scF (p : Nat → Int32) : Nat → Nat → Int32 → Int32
  | 0, _, z => z
  | k + 1, i, z => scF p k (i + 1) (if p i = -1 then z else (if z < 0 then 0 else z) + p i)
theorem scF_s (p : Nat → Int32) (k i : Nat) (z : Int32) : scF p (k + 1) i z = scF p k (i + 1) (if p i = -1 then z else (if z < 0 then 0 else z) + p i) := rfl
/-- the terms' cells are right: k terms, term i of (sz i) words -/
def TmO (I : DI) (k : Nat) (sz : Nat → Nat) : Prop := ∀ i, i < k → I (79 + 2 * i) 1 = nI (sz i) ∧ 1 ≤ sz i ∧ sz i ≤ 4 ∧ (I (79 + 2 * i) 3 = 0 ∨ I (79 + 2 * i) 3 = 1)
def tW (I : DI) (J : DJ) (e m : Nat) (sz : Nat → Nat) (i : Nat) : Int32 := sm (wgt I J i e (sz i)) (m + 1 - sz i)
def tO (I : DI) (y : Int32) (i : Nat) : Bool := decide (I (79 + 2 * i) 2 = y)
def tU (I : DI) (i : Nat) : Bool := decide (I (79 + 2 * i) 3 = 1)
def prt (I : DI) (J : DJ) (e m k : Nat) (sz : Nat → Nat) (y : Int32) : Int32 := paF (tO I y) (tW I J e m sz) (tU I) k 0 0
set_option maxHeartbeats 4000000 in
set_option maxRecDepth 100000 in
theorem lp_Qy_partOf {C : CT} {l : Launch} {S : ShT} {d : Nat} (hC : OKC C l) (hS : SHP S) (hd : 3 ≤ d) {I : DI} {J : DJ} {e m k : Nat} {sz : Nat → Nat} {y : Int32} (he : e < 16) (hm : m ≤ 30) (hk : k ≤ 21) (h3 : I 76 3 = nI k) (hn : I (28 + 3 * e) 2 = nI m) (hT : TmO I k sz) : ∀ (n : Nat) (i : Nat) (x z : Int32), x = nI i → i ≤ k → k < i + n → prt I J e m k sz y = paF (tO I y) (tW I J e m sz) (tU I) (k - i) i z → V C l k_Qy_partOf (d, 0, 0) (PP (.int (prt I J e m k sz y)) S I J) 5 [(4, .int x), (3, .int z), (0, .ref 76), (1, .ref (28 + 3 * e)), (2, .int y)] [] S I J (0, 0) := by
  intro n
  induction n with
  | zero =>
    intro i x z ex hi0 hf hr
    omega
  | succ n ih =>
    intro i x z ex hi0 hf hr
    refine v_iload 0 d_Qy_partOf_5 rfl rfl ?_
    refine v_aload_n 2 d_Qy_partOf_7 rfl rfl rfl ?_
    refine v_geti d_Qy_partOf_8 fl_Qy_32 (hS.o (by decide) rfl) rfl rfl ?_
    refine v_icmp_ge (tgt := 81) d_Qy_partOf_11 (by decide) rfl (fun c1 => ?_) (fun c1 => ?_)
    · refine v_iload_n 1 d_Qy_partOf_81 rfl rfl rfl ?_
      refine v_iret d_Qy_partOf_82 rfl ?_
      have hik : i = k := by rcases Nat.lt_or_ge i k with h9 | h9; exact absurd c1 (by rw [ex, h3]; exact nI_ge h9 (by omega)); omega
      rw [hik, Nat.sub_self] at hr
      exact ⟨by rw [hr]; rfl, rfl, rfl, rfl⟩
    · have hik : i < k := by rcases Nat.lt_or_ge i k with h9 | h9; exact h9; exact absurd (by rw [ex, h3]; exact nI_le h9 (by omega)) c1
      have hi : i < 21 := by omega
      rw [show k - i = (k - (i + 1)) + 1 by omega, paF_s] at hr
      refine v_aload_n 2 d_Qy_partOf_14 rfl rfl rfl ?_
      refine v_getr (r := 78) d_Qy_partOf_15 fl_Qy_17 (hS.o (by decide) rfl) rfl (hS.r (by decide) rfl) rfl ?_
      refine v_iload 0 d_Qy_partOf_18 rfl rfl ?_
      refine v_aald (j := i) (r := (79 + 2 * i)) d_Qy_partOf_20 (hS.a (t := 36) (n := 21) (by decide) rfl) (by decide) ex (by omega) (by decide) (hS.tmR (by omega)) rfl ?_
      refine v_iload_n 4 d_Qy_partOf_21 rfl rfl rfl ?_
      refine v_cVp (as := [.int y]) d_Qy_partOf_22 cs_Qy_59 (c_Tm_isOf hC hS (d := d - 1) hi y (by omega)) (hS.tm hi) (by decide) rfl rfl rfl (by decide) (by omega) rfl ?_
      refine v_if_eq (tgt := 75) d_Qy_partOf_25 (by decide) rfl (fun c2 => ?_) (fun c2 => ?_)
      · obtain ⟨x3, ex3⟩ : ∃ y : Int32, y = x + 1 := ⟨_, rfl⟩
        have nx3 : x3 = nI (i + 1) := by rw [ex3, show x = nI i from ex]; exact nI_1 _
        refine v_iinc (n := 0) (v := x3) (L' := [(4, .int x3), (3, .int z), (0, .ref 76), (1, .ref (28 + 3 * e)), (2, .int y)]) d_Qy_partOf_75 rfl (by rw [ex3]; rfl) (by decide) rfl rfl ?_
        refine v_goto (tgt := 5) d_Qy_partOf_78 (by decide) ?_
        have hof : tO I y i = false := bI_f c2
        rw [hof, if_neg (by decide)] at hr
        exact ih (i + 1) _ _ nx3 (by omega) (by omega) hr
      · refine v_aload_n 2 d_Qy_partOf_28 rfl rfl rfl ?_
        refine v_getr (r := 78) d_Qy_partOf_29 fl_Qy_17 (hS.o (by decide) rfl) rfl (hS.r (by decide) rfl) rfl ?_
        refine v_iload 0 d_Qy_partOf_32 rfl rfl ?_
        refine v_aald (j := i) (r := (79 + 2 * i)) d_Qy_partOf_34 (hS.a (t := 36) (n := 21) (by decide) rfl) (by decide) ex (by omega) (by decide) (hS.tmR (by omega)) rfl ?_
        refine v_aload_n 3 d_Qy_partOf_35 rfl rfl rfl ?_
        refine v_cVp (as := [.ref (28 + 3 * e)]) d_Qy_partOf_36 cs_Qy_63 (c_Tm_weightIn hC hS (d := d - 1) (s := sz i) (m := m) hi he (hT i hik).2.1 (hT i hik).2.2.1 hm (hT i hik).1 hn (by omega)) (hS.tm hi) (by decide) rfl rfl rfl (by decide) (by omega) rfl ?_
        obtain ⟨wt, hwt⟩ : ∃ z : Int32, z = tW I J e m sz i := ⟨_, rfl⟩
        rw [show sm (wgt I J i e (sz i)) (m + 1 - sz i) = wt from hwt.symm]
        refine v_istore (L' := [(5, .int wt), (4, .int x), (3, .int z), (0, .ref 76), (1, .ref (28 + 3 * e)), (2, .int y)]) d_Qy_partOf_39 (by decide) rfl rfl ?_
        refine v_iload 0 d_Qy_partOf_41 rfl rfl ?_
        refine v_if_le (tgt := 50) d_Qy_partOf_43 (by decide) rfl (fun c4 => ?_) (fun c4 => ?_)
        · have hh : decide (0 < tW I J e m sz i) = false := by rw [← hwt]; exact decide_eq_false (Int32.not_lt.mpr c4)
          refine v_iconst (v := 0) d_Qy_partOf_50 (by decide) rfl ?_
          refine v_istore (L' := [(6, .int 0), (5, .int wt), (4, .int x), (3, .int z), (0, .ref 76), (1, .ref (28 + 3 * e)), (2, .int y)]) d_Qy_partOf_51 (by decide) rfl rfl ?_
          refine v_iload 0 d_Qy_partOf_53 rfl rfl ?_
          refine v_aload_n 4 d_Qy_partOf_55 rfl rfl rfl ?_
          refine v_getr (r := 78) d_Qy_partOf_56 fl_Qy_17 (hS.o (by decide) rfl) rfl (hS.r (by decide) rfl) rfl ?_
          refine v_iload 2 d_Qy_partOf_59 rfl rfl ?_
          refine v_aald (j := i) (r := (79 + 2 * i)) d_Qy_partOf_61 (hS.a (t := 36) (n := 21) (by decide) rfl) (by decide) ex (by omega) (by decide) (hS.tmR (by omega)) rfl ?_
          refine v_cVp (as := []) d_Qy_partOf_62 cs_Qy_67 (c_Tm_isUnwanted hC hS (d := d - 1) hi (hT i hik).2.2.2 (by omega)) (hS.tm hi) (by decide) rfl rfl rfl (by simp [Value.category]) (by omega) rfl ?_
          refine v_icmp_ne (tgt := 70) d_Qy_partOf_65 (by decide) rfl (fun c5 => ?_) (fun c5 => ?_)
          · refine v_iload_n 3 d_Qy_partOf_70 rfl rfl rfl ?_
            refine v_iload 1 d_Qy_partOf_71 rfl rfl ?_
            refine v_iadd d_Qy_partOf_73 rfl ?_
            refine v_nmi (fun z6 ez6 => ?_)
            refine v_istore_n (L' := [(3, .int z6), (6, .int 0), (5, .int wt), (4, .int x), (0, .ref 76), (1, .ref (28 + 3 * e)), (2, .int y)]) d_Qy_partOf_74 rfl (by decide) rfl rfl ?_
            obtain ⟨x7, ex7⟩ : ∃ y : Int32, y = x + 1 := ⟨_, rfl⟩
            have nx7 : x7 = nI (i + 1) := by rw [ex7, show x = nI i from ex]; exact nI_1 _
            refine v_iinc (n := 3) (v := x7) (L' := [(4, .int x7), (3, .int z6), (6, .int 0), (5, .int wt), (0, .ref 76), (1, .ref (28 + 3 * e)), (2, .int y)]) d_Qy_partOf_75 rfl (by rw [ex7]; rfl) (by decide) rfl rfl ?_
            refine v_goto (tgt := 5) d_Qy_partOf_78 (by decide) ?_
            refine v_sub (L' := [(4, .int x7), (3, .int z6), (0, .ref 76), (1, .ref (28 + 3 * e)), (2, .int y)]) [0, 1, 4, 5, 6] rfl ?_
            have hof : tO I y i = true := bI_t c2
            have hu : tU I i = true := by show decide (I (79 + 2 * i) 3 = 1) = true; rcases (hT i hik).2.2.2 with h9 | h9; exact absurd h9.symm c5; rw [h9]; decide
            rw [hof, if_pos rfl, hh, hu, if_neg (by decide), ← hwt, ← ez6] at hr
            exact ih (i + 1) _ _ nx7 (by omega) (by omega) hr
          · refine v_iconst (v := (-1)) d_Qy_partOf_68 (by decide) rfl ?_
            refine v_iret d_Qy_partOf_69 rfl ?_
            have hof : tO I y i = true := bI_t c2
            have hu : tU I i = false := by show decide (I (79 + 2 * i) 3 = 1) = false; rw [← c5]; decide
            rw [hof, if_pos rfl, hh, hu, if_pos rfl] at hr
            exact ⟨by rw [hr], rfl, rfl, rfl⟩
        · have hh : decide (0 < tW I J e m sz i) = true := by rw [← hwt]; exact decide_eq_true (Int32.not_le.mp c4)
          refine v_iconst (v := 1) d_Qy_partOf_46 (by decide) rfl ?_
          refine v_goto (tgt := 51) d_Qy_partOf_47 (by decide) ?_
          refine v_istore (L' := [(6, .int 1), (5, .int wt), (4, .int x), (3, .int z), (0, .ref 76), (1, .ref (28 + 3 * e)), (2, .int y)]) d_Qy_partOf_51 (by decide) rfl rfl ?_
          refine v_iload 0 d_Qy_partOf_53 rfl rfl ?_
          refine v_aload_n 4 d_Qy_partOf_55 rfl rfl rfl ?_
          refine v_getr (r := 78) d_Qy_partOf_56 fl_Qy_17 (hS.o (by decide) rfl) rfl (hS.r (by decide) rfl) rfl ?_
          refine v_iload 2 d_Qy_partOf_59 rfl rfl ?_
          refine v_aald (j := i) (r := (79 + 2 * i)) d_Qy_partOf_61 (hS.a (t := 36) (n := 21) (by decide) rfl) (by decide) ex (by omega) (by decide) (hS.tmR (by omega)) rfl ?_
          refine v_cVp (as := []) d_Qy_partOf_62 cs_Qy_67 (c_Tm_isUnwanted hC hS (d := d - 1) hi (hT i hik).2.2.2 (by omega)) (hS.tm hi) (by decide) rfl rfl rfl (by simp [Value.category]) (by omega) rfl ?_
          refine v_icmp_ne (tgt := 70) d_Qy_partOf_65 (by decide) rfl (fun c8 => ?_) (fun c8 => ?_)
          · refine v_iload_n 3 d_Qy_partOf_70 rfl rfl rfl ?_
            refine v_iload 1 d_Qy_partOf_71 rfl rfl ?_
            refine v_iadd d_Qy_partOf_73 rfl ?_
            refine v_nmi (fun z9 ez9 => ?_)
            refine v_istore_n (L' := [(3, .int z9), (6, .int 1), (5, .int wt), (4, .int x), (0, .ref 76), (1, .ref (28 + 3 * e)), (2, .int y)]) d_Qy_partOf_74 rfl (by decide) rfl rfl ?_
            obtain ⟨x10, ex10⟩ : ∃ y : Int32, y = x + 1 := ⟨_, rfl⟩
            have nx10 : x10 = nI (i + 1) := by rw [ex10, show x = nI i from ex]; exact nI_1 _
            refine v_iinc (n := 3) (v := x10) (L' := [(4, .int x10), (3, .int z9), (6, .int 1), (5, .int wt), (0, .ref 76), (1, .ref (28 + 3 * e)), (2, .int y)]) d_Qy_partOf_75 rfl (by rw [ex10]; rfl) (by decide) rfl rfl ?_
            refine v_goto (tgt := 5) d_Qy_partOf_78 (by decide) ?_
            refine v_sub (L' := [(4, .int x10), (3, .int z9), (0, .ref 76), (1, .ref (28 + 3 * e)), (2, .int y)]) [0, 1, 4, 5, 6] rfl ?_
            have hof : tO I y i = true := bI_t c2
            have hu : tU I i = false := by show decide (I (79 + 2 * i) 3 = 1) = false; rcases (hT i hik).2.2.2 with h9 | h9; rw [h9]; decide; exact absurd h9.symm c8
            rw [hof, if_pos rfl, hh, hu, if_neg (by decide), ← hwt, ← ez9] at hr
            exact ih (i + 1) _ _ nx10 (by omega) (by omega) hr
          · refine v_iconst (v := (-1)) d_Qy_partOf_68 (by decide) rfl ?_
            refine v_iret d_Qy_partOf_69 rfl ?_
            have hof : tO I y i = true := bI_t c2
            have hu : tU I i = true := by show decide (I (79 + 2 * i) 3 = 1) = true; rw [← c8]; decide
            rw [hof, if_pos rfl, hh, hu, if_pos rfl] at hr
            exact ⟨by rw [hr], rfl, rfl, rfl⟩
set_option maxHeartbeats 4000000 in
set_option maxRecDepth 100000 in
theorem c_Qy_partOf {C : CT} {l : Launch} {S : ShT} {I : DI} {J : DJ} {d : Nat} (hC : OKC C l) (hS : SHP S) {e m k : Nat} {sz : Nat → Nat}  (he : e < 16) (hm : m ≤ 30) (hk : k ≤ 21) (h3 : I 76 3 = nI k) (hn : I (28 + 3 * e) 2 = nI m) (hT : TmO I k sz) (y : Int32) (hd : 3 ≤ d) : Sp C l k_Qy_partOf y_Qy_partOf (d, 0, 0) [.ref 76, .ref (28 + 3 * e), .int y] S I J (PP (.int (prt I J e m k sz y)) S I J) := by
  refine Sp.of hC cd_Qy_partOf (Nat.le_of_ble_eq_true rfl) ?_
  show V C l k_Qy_partOf (d, 0, 0) _ 0 [(0, .ref 76), (1, .ref (28 + 3 * e)), (2, .int y)] [] S I J (0, 0)
  refine v_iconst (v := 0) d_Qy_partOf_0 (by decide) rfl ?_
  refine v_istore_n (L' := [(3, .int 0), (0, .ref 76), (1, .ref (28 + 3 * e)), (2, .int y)]) d_Qy_partOf_1 rfl (by decide) rfl rfl ?_
  refine v_iconst (v := 0) d_Qy_partOf_2 (by decide) rfl ?_
  refine v_istore (L' := [(4, .int 0), (3, .int 0), (0, .ref 76), (1, .ref (28 + 3 * e)), (2, .int y)]) d_Qy_partOf_3 (by decide) rfl rfl ?_
  exact lp_Qy_partOf hC hS hd he hm hk h3 hn hT (k + 1) 0 _ _ rfl (by omega) (by omega) rfl
def sco (I : DI) (J : DJ) (e m k g : Nat) (sz : Nat → Nat) : Int32 := scF (fun j => prt I J e m k sz (nI j)) g 0 (-1)
set_option maxHeartbeats 4000000 in
set_option maxRecDepth 100000 in
theorem lp_Qy_scoreOf {C : CT} {l : Launch} {S : ShT} {d : Nat} (hC : OKC C l) (hS : SHP S) (hd : 4 ≤ d) {I : DI} {J : DJ} {e m k g : Nat} {sz : Nat → Nat} (he : e < 16) (hm : m ≤ 30) (hk : k ≤ 21) (hg : g ≤ 100) (h3 : I 76 3 = nI k) (h4 : I 76 4 = nI g) (hn : I (28 + 3 * e) 2 = nI m) (hT : TmO I k sz) : ∀ (n : Nat) (i : Nat) (x z : Int32), x = nI i → i ≤ g → g < i + n → sco I J e m k g sz = scF (fun j => prt I J e m k sz (nI j)) (g - i) i z → V C l k_Qy_scoreOf (d, 0, 0) (PP (.int (sco I J e m k g sz)) S I J) 4 [(3, .int x), (2, .int z), (0, .ref 76), (1, .ref (28 + 3 * e))] [] S I J (0, 0) := by
  intro n
  induction n with
  | zero =>
    intro i x z ex hi0 hf hr
    omega
  | succ n ih =>
    intro i x z ex hi0 hf hr
    refine v_iload_n 0 d_Qy_scoreOf_4 rfl rfl rfl ?_
    refine v_aload_n 2 d_Qy_scoreOf_5 rfl rfl rfl ?_
    refine v_geti d_Qy_scoreOf_6 fl_Qy_35 (hS.o (by decide) rfl) rfl rfl ?_
    refine v_icmp_ge (tgt := 41) d_Qy_scoreOf_9 (by decide) rfl (fun c1 => ?_) (fun c1 => ?_)
    · refine v_iload_n 1 d_Qy_scoreOf_41 rfl rfl rfl ?_
      refine v_iret d_Qy_scoreOf_42 rfl ?_
      have hik : i = g := by rcases Nat.lt_or_ge i g with h9 | h9; exact absurd c1 (by rw [ex, h4]; exact nI_ge h9 (by omega)); omega
      rw [hik, Nat.sub_self] at hr
      exact ⟨by rw [hr]; rfl, rfl, rfl, rfl⟩
    · have hig : i < g := by rcases Nat.lt_or_ge i g with h9 | h9; exact h9; exact absurd (by rw [ex, h4]; exact nI_le h9 (by omega)) c1
      rw [show g - i = (g - (i + 1)) + 1 by omega, scF_s] at hr
      refine v_aload_n 2 d_Qy_scoreOf_12 rfl rfl rfl ?_
      refine v_aload_n 3 d_Qy_scoreOf_13 rfl rfl rfl ?_
      refine v_iload_n 0 d_Qy_scoreOf_14 rfl rfl rfl ?_
      refine v_cVp (as := [.ref (28 + 3 * e), .int x]) d_Qy_scoreOf_15 cs_Qy_49 (by rw [ex]; exact c_Qy_partOf hC hS (d := d - 1) he hm hk h3 hn hT (nI i) (by omega)) (hS.o (by decide) rfl) (by decide) rfl rfl rfl (by decide) (by omega) rfl ?_
      obtain ⟨pt, hpt⟩ : ∃ z : Int32, z = prt I J e m k sz (nI i) := ⟨_, rfl⟩
      rw [← hpt]
      refine v_istore (L' := [(4, .int pt), (3, .int x), (2, .int z), (0, .ref 76), (1, .ref (28 + 3 * e))]) d_Qy_scoreOf_18 (by decide) rfl rfl ?_
      refine v_iload 0 d_Qy_scoreOf_20 rfl rfl ?_
      refine v_iconst (v := (-1)) d_Qy_scoreOf_22 (by decide) rfl ?_
      refine v_icmp_eq (tgt := 35) d_Qy_scoreOf_23 (by decide) rfl (fun c2 => ?_) (fun c2 => ?_)
      · obtain ⟨x3, ex3⟩ : ∃ y : Int32, y = x + 1 := ⟨_, rfl⟩
        have nx3 : x3 = nI (i + 1) := by rw [ex3, show x = nI i from ex]; exact nI_1 _
        refine v_iinc (n := 1) (v := x3) (L' := [(3, .int x3), (4, .int pt), (2, .int z), (0, .ref 76), (1, .ref (28 + 3 * e))]) d_Qy_scoreOf_35 rfl (by rw [ex3]; rfl) (by decide) rfl rfl ?_
        refine v_goto (tgt := 4) d_Qy_scoreOf_38 (by decide) ?_
        refine v_sub (L' := [(3, .int x3), (2, .int z), (0, .ref 76), (1, .ref (28 + 3 * e))]) [0, 2, 3, 4] rfl ?_
        simp only [← hpt] at hr
        rw [if_pos c2] at hr
        exact ih (i + 1) _ _ nx3 (by omega) (by omega) hr
      · refine v_iload_n 2 d_Qy_scoreOf_26 rfl rfl rfl ?_
        refine v_iconst (v := 0) d_Qy_scoreOf_27 (by decide) rfl ?_
        refine v_max d_Qy_scoreOf_28 wm_Qy_53 ws_Mt_max (by omega) (by decide) rfl ?_
        refine v_nmi (fun z4 ez4 => ?_)
        refine v_iload 0 d_Qy_scoreOf_31 rfl rfl ?_
        refine v_iadd d_Qy_scoreOf_33 rfl ?_
        refine v_nmi (fun z5 ez5 => ?_)
        refine v_istore_n (L' := [(2, .int z5), (4, .int pt), (3, .int x), (0, .ref 76), (1, .ref (28 + 3 * e))]) d_Qy_scoreOf_34 rfl (by decide) rfl rfl ?_
        obtain ⟨x6, ex6⟩ : ∃ y : Int32, y = x + 1 := ⟨_, rfl⟩
        have nx6 : x6 = nI (i + 1) := by rw [ex6, show x = nI i from ex]; exact nI_1 _
        refine v_iinc (n := 2) (v := x6) (L' := [(3, .int x6), (2, .int z5), (4, .int pt), (0, .ref 76), (1, .ref (28 + 3 * e))]) d_Qy_scoreOf_35 rfl (by rw [ex6]; rfl) (by decide) rfl rfl ?_
        refine v_goto (tgt := 4) d_Qy_scoreOf_38 (by decide) ?_
        refine v_sub (L' := [(3, .int x6), (2, .int z5), (0, .ref 76), (1, .ref (28 + 3 * e))]) [0, 1, 3, 4] rfl ?_
        simp only [← hpt] at hr
        rw [if_neg c2, ← ez4, ← ez5] at hr
        exact ih (i + 1) _ _ nx6 (by omega) (by omega) hr
set_option maxHeartbeats 4000000 in
set_option maxRecDepth 100000 in
theorem c_Qy_scoreOf {C : CT} {l : Launch} {S : ShT} {I : DI} {J : DJ} {d : Nat} (hC : OKC C l) (hS : SHP S) {e m k g : Nat} {sz : Nat → Nat} (he : e < 16) (hm : m ≤ 30) (hk : k ≤ 21) (hg : g ≤ 100) (h3 : I 76 3 = nI k) (h4 : I 76 4 = nI g) (hn : I (28 + 3 * e) 2 = nI m) (hT : TmO I k sz) (hd : 4 ≤ d) : Sp C l k_Qy_scoreOf y_Qy_scoreOf (d, 0, 0) [.ref 76, .ref (28 + 3 * e)] S I J (PP (.int (sco I J e m k g sz)) S I J) := by
  refine Sp.of hC cd_Qy_scoreOf (Nat.le_of_ble_eq_true rfl) ?_
  show V C l k_Qy_scoreOf (d, 0, 0) _ 0 [(0, .ref 76), (1, .ref (28 + 3 * e))] [] S I J (0, 0)
  refine v_iconst (v := (-1)) d_Qy_scoreOf_0 (by decide) rfl ?_
  refine v_istore_n (L' := [(2, .int (-1)), (0, .ref 76), (1, .ref (28 + 3 * e))]) d_Qy_scoreOf_1 rfl (by decide) rfl rfl ?_
  refine v_iconst (v := 0) d_Qy_scoreOf_2 (by decide) rfl ?_
  refine v_istore_n (L' := [(3, .int 0), (2, .int (-1)), (0, .ref 76), (1, .ref (28 + 3 * e))]) d_Qy_scoreOf_3 rfl (by decide) rfl rfl ?_
  exact lp_Qy_scoreOf hC hS hd he hm hk hg h3 h4 hn hT (g + 1) 0 _ _ rfl (by omega) (by omega) rfl
end
