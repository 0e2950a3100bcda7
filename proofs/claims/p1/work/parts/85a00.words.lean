theorem hw_88 : (.classLink "TapeSealerLaw" 8 "TapeSealer" : Cond) ∈ gx_B := gx_mem 88 (by decide +kernel) rfl
theorem hw_89 : (.instantiable "TapeSealer" 15 : Cond) ∈ gx_B := gx_mem 89 (by decide +kernel) rfl
theorem hw_90 : (.methodLink "TapeSealerLaw" 77 ⟨"TapeSealer", "<init>", "()V"⟩ : Cond) ∈ gx_B := gx_mem 90 (by decide +kernel) rfl
theorem hw_91 : (.instanceMethod ⟨"TapeSealer", "<init>", "()V"⟩ : Cond) ∈ gx_B := gx_mem 91 (by decide +kernel) rfl
theorem hw_884 : (.classLink "TapeSealerLaw" 78 "TapeSealerModel" : Cond) ∈ gx_B := gx_mem 884 (by decide +kernel) rfl
theorem hw_885 : (.instantiable "TapeSealerModel" 45 : Cond) ∈ gx_B := gx_mem 885 (by decide +kernel) rfl
theorem hw_886 : (.methodLink "TapeSealerLaw" 80 ⟨"TapeSealerModel", "<init>", "()V"⟩ : Cond) ∈ gx_B := gx_mem 886 (by decide +kernel) rfl
theorem hw_887 : (.instanceMethod ⟨"TapeSealerModel", "<init>", "()V"⟩ : Cond) ∈ gx_B := gx_mem 887 (by decide +kernel) rfl
