theorem okM_0 {t s f l : Nat → Int32} : okM 0 t s f l := ⟨by omega, fun k hk => by omega, fun i j hi => by omega, fun i j hi => by omega⟩
theorem okH_0 {t u : Nat → Int32} : okH 0 t u := ⟨by omega, fun k hk => by omega, fun i j hi => by omega⟩
theorem srt_0 {t : Nat → Int32} : srt 0 t := fun i j _ hj => by omega
theorem okU_0 {t s f l : Nat → Int32} {u : Nat → Int64} : okU 0 t s f l u := fun k hk => by omega
theorem sameM_0 {t s f l t' s' f' l' : Nat → Int32} : sameM 0 t s f l t' s' f' l' := ⟨fun k hk => by omega, fun k hk => by omega⟩
