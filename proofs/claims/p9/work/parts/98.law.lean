theorem law_runs : LawRuns := fun xs h => law_walk xs h
