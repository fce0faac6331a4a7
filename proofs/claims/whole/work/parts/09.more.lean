theorem m_27 : Cond.code objectInit ⟨#[0xb1]⟩ 1 none ∈ pc_T := pc_mem (i := 27) (by decide +kernel) (by decide +kernel)
