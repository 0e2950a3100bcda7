set_option maxRecDepth 100000 in
theorem own_ISE : ∀ w ∈ Bundle.ownAtoms0 "TapeSealer" 91 "java/lang/IllegalStateException" own_n, w ∈ lw_tbl ∨ w = own_U ∨ w = own_S := by decide +kernel
set_option maxRecDepth 100000 in
theorem own_ISEk : (Bundle.ownAtoms0 "TapeSealer" 91 "java/lang/IllegalStateException" own_n).all (fun w => goodWord w || gx_nk w || decide (w = .isRef (.static Bundle.tN "UNASSIGNED_STACK" Bundle.steD)) || decide (w = .isRef (.static Bundle.tN "SUPPRESSED_SENTINEL" Bundle.listD)) || decide (w = .laysStatic Bundle.tN "UNASSIGNED_STACK" Bundle.steD) || decide (w = .laysStatic Bundle.tN "SUPPRESSED_SENTINEL" Bundle.listD)) = true := by decide +kernel
set_option maxRecDepth 100000 in
theorem own_IAE : ∀ w ∈ Bundle.ownAtoms0 "TapeSealer" 152 "java/lang/IllegalArgumentException" own_n, w ∈ lw_tbl ∨ w = own_U ∨ w = own_S := by decide +kernel
set_option maxRecDepth 100000 in
theorem own_IAEk : (Bundle.ownAtoms0 "TapeSealer" 152 "java/lang/IllegalArgumentException" own_n).all (fun w => goodWord w || gx_nk w || decide (w = .isRef (.static Bundle.tN "UNASSIGNED_STACK" Bundle.steD)) || decide (w = .isRef (.static Bundle.tN "SUPPRESSED_SENTINEL" Bundle.listD)) || decide (w = .laysStatic Bundle.tN "UNASSIGNED_STACK" Bundle.steD) || decide (w = .laysStatic Bundle.tN "SUPPRESSED_SENTINEL" Bundle.listD)) = true := by decide +kernel
set_option maxRecDepth 100000 in
theorem own_IOB : ∀ w ∈ Bundle.ownAtoms0 "TapeSealer" 171 "java/lang/IndexOutOfBoundsException" own_n, w ∈ lw_tbl ∨ w = own_U ∨ w = own_S := by decide +kernel
set_option maxRecDepth 100000 in
theorem own_IOBk : (Bundle.ownAtoms0 "TapeSealer" 171 "java/lang/IndexOutOfBoundsException" own_n).all (fun w => goodWord w || gx_nk w || decide (w = .isRef (.static Bundle.tN "UNASSIGNED_STACK" Bundle.steD)) || decide (w = .isRef (.static Bundle.tN "SUPPRESSED_SENTINEL" Bundle.listD)) || decide (w = .laysStatic Bundle.tN "UNASSIGNED_STACK" Bundle.steD) || decide (w = .laysStatic Bundle.tN "SUPPRESSED_SENTINEL" Bundle.listD)) = true := by decide +kernel
set_option maxRecDepth 100000 in
theorem own_NSE : ∀ w ∈ Bundle.ownAtoms0 "TapeSealer" 148 "java/util/NoSuchElementException" own_n, w ∈ lw_tbl ∨ w = own_U ∨ w = own_S := by decide +kernel
set_option maxRecDepth 100000 in
theorem own_NSEk : (Bundle.ownAtoms0 "TapeSealer" 148 "java/util/NoSuchElementException" own_n).all (fun w => goodWord w || gx_nk w || decide (w = .isRef (.static Bundle.tN "UNASSIGNED_STACK" Bundle.steD)) || decide (w = .isRef (.static Bundle.tN "SUPPRESSED_SENTINEL" Bundle.listD)) || decide (w = .laysStatic Bundle.tN "UNASSIGNED_STACK" Bundle.steD) || decide (w = .laysStatic Bundle.tN "SUPPRESSED_SENTINEL" Bundle.listD)) = true := by decide +kernel
