theorem pq_ph36 : True := trivial
