set_option maxRecDepth 20000 in
theorem uw_64 : Cond.initialized RJ3 ∈ uw := List.mem_filter.mpr ⟨List.mem_of_getElem? (i := 64) (by decide +kernel), by decide +kernel⟩
set_option maxRecDepth 20000 in
theorem uw_68 : Cond.initialized RJ10 ∈ uw := List.mem_filter.mpr ⟨List.mem_of_getElem? (i := 68) (by decide +kernel), by decide +kernel⟩
set_option maxRecDepth 20000 in
theorem uw_90 : Cond.arrayClass .int ∈ uw := List.mem_filter.mpr ⟨List.mem_of_getElem? (i := 90) (by decide +kernel), by decide +kernel⟩
set_option maxRecDepth 20000 in
theorem uw_462 : Cond.fieldLink RJ0 1053 "jdk/internal/util/Preconditions" "SIOOBE_FORMATTER" "Ljava/util/function/BiFunction;" ∈ uw := List.mem_filter.mpr ⟨List.mem_of_getElem? (i := 462) (by decide +kernel), by decide +kernel⟩
set_option maxRecDepth 20000 in
theorem uw_464 : Cond.methodLink RJ0 1059 yJ3_checkIndex_8e157 ∈ uw := List.mem_filter.mpr ⟨List.mem_of_getElem? (i := 464) (by decide +kernel), by decide +kernel⟩
set_option maxRecDepth 20000 in
theorem uw_465 : Cond.static yJ3_checkIndex_8e157 ∈ uw := List.mem_filter.mpr ⟨List.mem_of_getElem? (i := 465) (by decide +kernel), by decide +kernel⟩
set_option maxRecDepth 20000 in
theorem uw_466 : Cond.code yJ3_checkIndex_8e157 cJ3_checkIndex_8e157 3 (some .int) ∈ uw := List.mem_filter.mpr ⟨List.mem_of_getElem? (i := 466) (by decide +kernel), by decide +kernel⟩
set_option maxRecDepth 20000 in
theorem uw_872 : Cond.methodLink RX3 40 yJ7_copyOf_59c91 ∈ uw := List.mem_filter.mpr ⟨List.mem_of_getElem? (i := 872) (by decide +kernel), by decide +kernel⟩
set_option maxRecDepth 20000 in
theorem uw_873 : Cond.static yJ7_copyOf_59c91 ∈ uw := List.mem_filter.mpr ⟨List.mem_of_getElem? (i := 873) (by decide +kernel), by decide +kernel⟩
set_option maxRecDepth 20000 in
theorem uw_874 : Cond.code yJ7_copyOf_59c91 cJ7_copyOf_59c91 3 (some (.array .int)) ∈ uw := List.mem_filter.mpr ⟨List.mem_of_getElem? (i := 874) (by decide +kernel), by decide +kernel⟩
set_option maxRecDepth 20000 in
theorem uw_882 : Cond.methodLink RJ7 304 yJ9_min_7cf53 ∈ uw := List.mem_filter.mpr ⟨List.mem_of_getElem? (i := 882) (by decide +kernel), by decide +kernel⟩
set_option maxRecDepth 20000 in
theorem uw_883 : Cond.methodLink RJ7 150 ⟨"java/lang/System", "arraycopy", "(Ljava/lang/Object;ILjava/lang/Object;II)V"⟩ ∈ uw := List.mem_filter.mpr ⟨List.mem_of_getElem? (i := 883) (by decide +kernel), by decide +kernel⟩
set_option maxRecDepth 20000 in
theorem uw_884 : Cond.static ⟨"java/lang/System", "arraycopy", "(Ljava/lang/Object;ILjava/lang/Object;II)V"⟩ ∈ uw := List.mem_filter.mpr ⟨List.mem_of_getElem? (i := 884) (by decide +kernel), by decide +kernel⟩
set_option maxRecDepth 20000 in
theorem uw_885 : Cond.native ⟨"java/lang/System", "arraycopy", "(Ljava/lang/Object;ILjava/lang/Object;II)V"⟩ ∈ uw := List.mem_filter.mpr ⟨List.mem_of_getElem? (i := 885) (by decide +kernel), by decide +kernel⟩
