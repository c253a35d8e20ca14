section
/-! EVIDENCE, no part of a proof: no start meets the Statement's tables: of one and the same method they say both 'declares' (not static) and 'static'. -/
theorem tables_contradict (args : Array Value) (s : State) (h : ∀ w ∈ tables_1, w.before args s = true) : False := by
  have h1 : (Cond.declares ⟨"BatchPlans$Node", "exactInt", "(J)I"⟩).before args s = true := h _ (by decide +kernel)
  have h2 : (Cond.static ⟨"BatchPlans$Node", "exactInt", "(J)I"⟩).before args s = true := h _ (by decide +kernel)
  obtain ⟨m, meth, hn, hm, hst, -⟩ := Cond.declares_spec h1
  have h3 : meth.isStatic = true := Cond.static_spec hn hm h2
  rw [hst] at h3
  cases h3
end
