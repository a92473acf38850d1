theorem q58 : Cond.classLink RL 7 RX10 ∈ big := big_of (List.mem_of_getElem? (i := 58) (by decide +kernel)) rfl
theorem q59 : Cond.instantiable RX10 14 ∈ big := big_of (List.mem_of_getElem? (i := 59) (by decide +kernel)) rfl
theorem q60 : Cond.methodLink RL 9 yX10_init ∈ big := big_of (List.mem_of_getElem? (i := 60) (by decide +kernel)) rfl
theorem q61 : Cond.instanceMethod yX10_init ∈ big := big_of (List.mem_of_getElem? (i := 61) (by decide +kernel)) rfl
theorem q62 : Cond.code yX10_init cX10_init 2 (none) ∈ big := big_of (List.mem_of_getElem? (i := 62) (by decide +kernel)) rfl
theorem q874 : Cond.classLink RL 10 RX11 ∈ big := big_of (List.mem_of_getElem? (i := 874) (by decide +kernel)) rfl
theorem q875 : Cond.instantiable RX11 32 ∈ big := big_of (List.mem_of_getElem? (i := 875) (by decide +kernel)) rfl
theorem q876 : Cond.methodLink RL 12 yX11_init ∈ big := big_of (List.mem_of_getElem? (i := 876) (by decide +kernel)) rfl
theorem q877 : Cond.instanceMethod yX11_init ∈ big := big_of (List.mem_of_getElem? (i := 877) (by decide +kernel)) rfl
theorem q878 : Cond.code yX11_init cX11_init 2 (none) ∈ big := big_of (List.mem_of_getElem? (i := 878) (by decide +kernel)) rfl
