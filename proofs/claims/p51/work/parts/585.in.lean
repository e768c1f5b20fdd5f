/-! the start -/
theorem ngl_in : ∀ w ∈ NGL, w ∈ lw_tbl := by decide +kernel
theorem strl_in : ∀ q ∈ STRL, Cond.stringRef q.1 q.2.1 q.2.2 ∈ lw_tbl := by decide +kernel
theorem strl_own : ∀ q ∈ STRL, q.1 = RX6 := by decide +kernel
theorem nnl_in : ∀ q ∈ NNL, Cond.methodLinkNest q.1 q.2.1 q.2.2.1 q.2.2.2 ∈ lw_tbl := by decide +kernel
theorem nml_in : ∀ q ∈ NML, Cond.methodLinkNest q.1 q.2.1 q.2.2.1 q.2.2.2 ∈ lw_tbl := by decide +kernel
theorem nfl_in : ∀ q ∈ NFL, Cond.fieldLinkNest q.1 q.2.1 q.2.2.1 q.2.2.2.1 q.2.2.2.2.1 q.2.2.2.2.2 ∈ lw_tbl := by decide +kernel
theorem ncl_in : ∀ q ∈ NCL, Cond.not (.castable q.1 q.2) ∈ flatC (Jvm.Cond.and given_1 narrow_1) := by decide +kernel
theorem unas_in : Cond.isRef (.static Bundle.tN "UNASSIGNED_STACK" Bundle.steD) ∈ flatC (Jvm.Cond.and given_1 narrow_1) := by decide +kernel
theorem sent_in : Cond.isRef (.static Bundle.tN "SUPPRESSED_SENTINEL" Bundle.listD) ∈ flatC (Jvm.Cond.and given_1 narrow_1) := by decide +kernel
theorem ls1_in : Cond.laysStatic Bundle.tN "UNASSIGNED_STACK" Bundle.steD ∈ lw_tbl := by decide +kernel
theorem ls2_in : Cond.laysStatic Bundle.tN "SUPPRESSED_SENTINEL" Bundle.listD ∈ lw_tbl := by decide +kernel
theorem ini_in : Cond.initialized Bundle.tN ∈ lw_tbl := by decide +kernel
theorem aoO_in : Cond.arrayOver (.object "java/lang/Object") ∈ lw_tbl := by decide +kernel
theorem aoT_in : Cond.arrayOver (.object "EbbTable$Tree") ∈ lw_tbl := by decide +kernel
theorem aoI_in : Cond.arrayOver (.array .int) ∈ lw_tbl := by decide +kernel
theorem aoZ_in : Cond.arrayOver (.array .boolean) ∈ lw_tbl := by decide +kernel
abbrev icT : Term := .static icC "cache" "[Ljava/lang/Integer;"
abbrev alT : Term := .static alC alE obA
theorem ic1_in : Cond.eq (.length icT) (.int 256) ∈ flatC (Jvm.Cond.and given_1 narrow_1) := by decide +kernel
theorem ic2_in : Cond.all icT (.and (.exactly (.elem icT (.index 0)) "java/lang/Integer") (.eq (.field (.elem icT (.index 0)) "java/lang/Integer" "value" "I") (.sub (.index 0) (.int 128)))) ∈ flatC (Jvm.Cond.and given_1 narrow_1) := by decide +kernel
theorem ic3_in : Cond.arrayOf icT (.object "java/lang/Integer") ∈ flatC (Jvm.Cond.and given_1 narrow_1) := by decide +kernel
theorem ic4_in : Cond.eq (.static icC "high" "I") (.int 127) ∈ flatC (Jvm.Cond.and given_1 narrow_1) := by decide +kernel
theorem ic5_in : Cond.laysStatic icC "high" "I" ∈ lw_tbl := by decide +kernel
theorem ic6_in : Cond.laysStatic icC "cache" "[Ljava/lang/Integer;" ∈ lw_tbl := by decide +kernel
theorem ic7_in : Cond.initialized icC ∈ lw_tbl := by decide +kernel
theorem al1_in : Cond.arrayOf alT (.object "java/lang/Object") ∈ flatC (Jvm.Cond.and given_1 narrow_1) := by decide +kernel
theorem al2_in : Cond.eq (.length alT) (.int 0) ∈ flatC (Jvm.Cond.and given_1 narrow_1) := by decide +kernel
theorem al3_in : Cond.exactly alT obA ∈ flatC (Jvm.Cond.and given_1 narrow_1) := by decide +kernel
theorem al4_in : Cond.laysStatic alC alE obA ∈ lw_tbl := by decide +kernel
theorem al5_in : Cond.initialized alC ∈ lw_tbl := by decide +kernel
theorem mi_in : Cond.isRef (.mirror obA) ∈ flatC (Jvm.Cond.and given_1 narrow_1) := by decide +kernel
theorem fw1_in : Cond.declares yColl ∈ lw_tbl := by decide +kernel
theorem fw2_in : Cond.interfaceMethod yColl.cls yColl.cls yColl.name yColl.desc ∈ lw_tbl := by decide +kernel
theorem fw3_in : Cond.publicMethod yJx4a65c_toArray_d5877 ∈ lw_tbl := by decide +kernel
theorem fw4_in : Cond.unhidden alC yColl.name yColl.desc ∈ lw_tbl := by decide +kernel
theorem fw5_in : Cond.castable alC yColl.cls ∈ lw_tbl := by decide +kernel
theorem no_traces {l : Launch} (h : l.flags = flags0) : l.stackTraces = false := by
  unfold Launch.stackTraces
  rw [h]
  decide +kernel
