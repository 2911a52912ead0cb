theorem law_pure : law_pure_ok := sorry
