theorem f_count (G : sv_G) (hl0 : G.1.stackTraces = false) (b : Nat) (k w : Int32) : OpI G mX12_count mX13_count b (b + 220) (b + 261) ["java/lang/IndexOutOfBoundsException"] [.int w] (sv_Fr G b k) (sv_Wk G b (b + 220) (b + 261)) := by
  intro h z hi
  have hd := hi.1.deck
  have hm := hi.2.1.obj
  obtain ⟨f0, ho⟩ := hi.2.2
  refine ⟨_, _, c_count0 G hl0 h z b w _ _ _ _ _ _ _ _ _ _ _ _ _ hd rfl _ _ _ _ _ _ _ hi.1.told rfl _ _ _ hi.1.wv rfl _ _ hi.1.tape rfl, fun v h1 z1 hq => ?_, fun E h1 z1 hq => ?_⟩
  · obtain ⟨q1, rfl, rfl, rfl⟩ := hq
    refine ⟨0, rfl, ⟨f0, ho⟩, by omega, ⟨_, hm⟩, fun h2 g e1 e2 e3 => ?_⟩
    have hm2 := (e3 (b + 220) (by omega)).trans hm
    refine ⟨_, m_count0 G _ _ _ _ rfl hm2 w rfl rfl rfl rfl q1, fun v2 h3 z3 hq2 => ?_⟩
    obtain ⟨rfl, rfl, rfl⟩ := hq2
    exact ⟨rfl, ⟨_, sv_us, rfl, rfl⟩, (sv_un (by omega)).trans e1, ⟨_, (sv_un (by omega)).trans ((e3 b (by omega)).trans hd)⟩, ⟨_, sv_us⟩, g, (sv_un (by omega)).trans e1⟩
  · obtain ⟨q1, rfl, rfl⟩ := hq
    refine ⟨0, rfl, ⟨_, hm⟩, _, m_count0_o G _ _ _ _ rfl hm w rfl rfl rfl rfl q1, fun v2 h3 z3 hq2 => ?_⟩
    obtain ⟨rfl, rfl, rfl⟩ := hq2
    exact ⟨⟨0, rfl⟩, ⟨_, sv_us, rfl, rfl⟩, ⟨_, (sv_un (by omega)).trans hd⟩, ⟨_, sv_us⟩, f0, (sv_un (by omega)).trans ho⟩
