/-! the exceptions that the class throws: their words among the premises -/
theorem to_X5_140_142 : TO RX5 140 142 144 "java/lang/IllegalArgumentException" := ⟨14, "what is not 0 to 11", rfl, by decide +kernel, by decide +kernel, by decide +kernel, by decide +kernel⟩
theorem to_X5_140_173 : TO RX5 140 173 144 "java/lang/IllegalArgumentException" := ⟨16, "what is not 0 to 4", rfl, by decide +kernel, by decide +kernel, by decide +kernel, by decide +kernel⟩
theorem to_X5_140_209 : TO RX5 140 209 144 "java/lang/IllegalArgumentException" := ⟨17, "what is not 0 to 6", rfl, by decide +kernel, by decide +kernel, by decide +kernel, by decide +kernel⟩
theorem to_X5_140_329 : TO RX5 140 329 144 "java/lang/IllegalArgumentException" := ⟨19, "what is not 0 to 2", rfl, by decide +kernel, by decide +kernel, by decide +kernel, by decide +kernel⟩
theorem to_X5_340_342 : TO RX5 340 342 344 "java/lang/IndexOutOfBoundsException" := ⟨15, "there is no such index", rfl, by decide +kernel, by decide +kernel, by decide +kernel, by decide +kernel⟩
theorem to_X5_140_345 : TO RX5 140 345 144 "java/lang/IllegalArgumentException" := ⟨13, "an argument is out of range", rfl, by decide +kernel, by decide +kernel, by decide +kernel, by decide +kernel⟩
theorem to_X5_347_349 : TO RX5 347 349 351 "java/lang/IllegalStateException" := ⟨12, "this cannot be done now", rfl, by decide +kernel, by decide +kernel, by decide +kernel, by decide +kernel⟩
theorem to_X5_352_354 : TO RX5 352 354 356 "java/util/NoSuchElementException" := ⟨18, "there is none", rfl, by decide +kernel, by decide +kernel, by decide +kernel, by decide +kernel⟩
